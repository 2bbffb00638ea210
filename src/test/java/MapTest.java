/** Promise 2: a MAP by a TEXT. */
public final class MapTest {
    private static final Due due = new Due();

    public static void main(String[] args) {
        texts();
        firstFaults();
        startsOfTexts();
        serials();
        refusals();
        faults();
        anew();
        due.end();
    }

    private static void text(String text, int want) {
        due.is("map " + text, Due.read(new AreaOrders(), text), want);
    }

    private static void texts() {
        text("m;p11,0,0", 1);
        text("m;d99;b11,10,01", 2);
        text("m;p11;p11;p11;p11;p11;p11,012345,543210", 6);
        AreaOrders x = new AreaOrders();
        Due.fill(x, 1, 2, Due.codes("xxm;b29;p31,10,01x"));
        due.is("of ints, from 2 on", x.map(1, 2, 2, 15), 2);
        due.is("kind", x.ofArea(0, 0), 1);
        due.is("plot", x.ofArea(0, 1), 2);
        due.is("width", x.ofArea(0, 2), 9);
        due.is("order 0", x.ofArea(0, 11), 1);
        due.is("order 1", x.ofArea(0, 12), 0);
        due.is("fault", x.fault(), 0);
        // A byte is cut: 256 and 109 becomes an m; an int is not.
        Due.fill(x, 0, 0, 256 + 'm', ';', 'p', '1', '1', ',', '0', ',', '0');
        due.is("bytes", x.map(0, 0, 0, 9), 1);
        Due.fill(x, 0, 2, 256 + 'm', ';', 'p', '1', '1', ',', '0', ',', '0');
        due.is("ints", x.map(0, 2, 0, 9), -100);
        Due.fill(x, 0, 1, 65536 + 'm', ';', 'p', '1', '1', ',', '0', ',', '0');
        due.is("shorts", x.map(0, 1, 0, 9), 1);
        Due.fill(x, 0, 2, 'm', ';', 'p', '1', Integer.MIN_VALUE, ',', '0', ',', '0');
        due.is("far code", x.map(0, 2, 0, 9), -104);
        Due.fill(x, 0, 2, 'm', ';', 'p', '1', '1', ',', Integer.MIN_VALUE + 48, ',', '0');
        due.is("far digit", x.map(0, 2, 0, 9), -106);
    }

    private static void firstFaults() {
        text("", -100);
        text("x", -100);
        text("m", -101);
        text("m,", -101);
        text("m;", -102);
        text("m;q11,0,0", -102);
        text("m;M11,0,0", -102);
        text("m;p01,0,0", -103);
        text("m;p:1,0,0", -103);
        text("m;p10,0,0", -104);
        text("m;p1/,0,0", -104);
        text("m;p11", -105);
        text("m;p11m", -105);
        text("m;p11,", -106);
        text("m;p11;,0,0", -106);
        text("m;p11;p,0,0", -107);
        text("m;p11;p1,0,0", -108);
        text("m;p11;p10,0,0", -108);
        text("m;p11,1,0", -106);
        text("m;p11,0", -107);
        text("m;p11,00,0", -107);
        text("m;p11,0,", -108);
        text("m;p11,0,1", -108);
        text("m;p11,0,00", -109);
        text("m;p11,0,0,", -109);
        text("m;p11;p11,00,01", -111);
        text("m;p11;p11,0,01", -111);
        text("m;p11;p11,02,01", -111);
        text("m;p11;p11,01,11", -114);
        text("m;p11;p11,01,1", -114);
        text("m;p11;p11,01,10;", -115);
        text("m;p11;p11;p11;p11;p11;p11;p11,0,0", -125);
        text("m;p11;p11;p11;p11;p11;p11", -125);
        text("m;p11;p11;p11;p11;p11;p11,6", -126);
        text("m;p11;p11;p11;p11;p11;p11,012345,012345;", -139);
    }

    /** Codes behind the TEXT, or of one that was read ahead of it, are none of its own. */
    private static void startsOfTexts() {
        String text = "m;p42;b63;d52,201,021";
        AreaOrders x = Due.mapOf(text);
        for (int n = 0; n < text.length(); n++) {
            due.is("the first " + n, x.map(3, 0, 0, n), -100 - n);
        }
        due.is("all", x.map(3, 0, 0, text.length()), 3);
        for (int n = 0; n < text.length(); n++) {
            due.is("just " + n, Due.read(x, text.substring(0, n)), -100 - n);
        }
    }

    private static void serials() {
        AreaOrders x = new AreaOrders();
        Due.read(x, "m;p11;p11,01,01");
        due.is("first serial", x.ofArea(0, 10), 1);
        due.is("second serial", x.ofArea(1, 10), 2);
        Due.read(x, "m;p11;p11;p1");
        due.is("read of a refused text", x.whole(5), 4);
        due.is("serial stays", x.ofArea(1, 10), 2);
        due.is("map stays", x.many(0), 2);
        Due.read(x, "m;p11;p11;p11;p11;p11;p11;p11");
        due.is("a seventh is not read", x.whole(5), 10);
        Due.read(x, "m;b22,0,1");
        due.is("read ahead of a wrong order", x.whole(5), 11);
        Due.read(x, "m;b22,0,0");
        due.is("serial goes on", x.ofArea(0, 10), 12);
        x.map(3, 1, 0, 9);
        due.is("a fault reads nothing", x.whole(5), 12);
    }

    private static void refusals() {
        AreaOrders x = new AreaOrders();
        due.is("sheet -1", x.map(-1, 0, 0, 0), -1);
        due.is("sheet 4, lane 3", x.map(4, 3, 0, 0), -1);
        due.is("lane 3", x.map(0, 3, 0, -1), -2);
        due.is("lane -1", x.map(0, -1, 0, 0), -2);
        due.is("refused: no fault", x.fault(), 0);
    }

    private static void faults() {
        AreaOrders x = new AreaOrders();
        due.is("nothing", x.map(0, 0, 0, -1), -11);
        due.is("nothing", x.fault(), 1);
        Due.fill(x, 0, 1, Due.codes("m;p11,0,0"));
        due.is("cast ahead of size", x.map(0, 0, 0, -1), -12);
        due.is("cast", x.fault(), 2);
        due.is("size ahead of index", x.map(0, 1, -1, -1), -14);
        due.is("size", x.fault(), 4);
        due.is("index below", x.map(0, 1, -1, 2), -13);
        due.is("index beyond", x.map(0, 1, 1, 9), -13);
        due.is("index far", x.map(0, 1, Integer.MAX_VALUE, Integer.MAX_VALUE), -13);
        due.is("index", x.fault(), 3);
        due.is("none at the end", x.map(0, 1, 9, 0), -100);
        due.is("a first fault is none of the machine's", x.fault(), 0);
        due.is("none behind the end", x.map(0, 1, 10, 0), -13);
        due.is("none ahead of it", x.map(0, 1, -1, 0), -13);
        due.is("all", x.map(0, 1, 0, 9), 1);
        due.is("no fault", x.fault(), 0);
    }

    private static void anew() {
        AreaOrders x = Due.mapOf("m;p11;p11,01,10");
        x.reading(1, 1);
        x.tell(0);
        Due.read(x, "m;p11;p11;x");
        due.is("readings stay", x.many(3), 1);
        Due.read(x, "m;d72,0,0");
        due.is("no readings", x.many(3), 0);
        due.is("one area", x.many(0), 1);
        due.is("the old one is gone", x.ofArea(1, 0), -1);
        due.is("trace stays", x.trace(), 1);
        due.is("breadth", x.many(1), 2);
        due.is("depth", x.many(2), 7);
    }
}
