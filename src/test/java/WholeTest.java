/** Promises 7 and 8: the whole MAP, SQUEEZING. */
public final class WholeTest {
    private static final Due due = new Due();

    public static void main(String[] args) {
        wholes();
        squeezing();
        notToBe();
        notCritical();
        refusals();
        due.end();
    }

    private static void all(AreaOrders x, int... want) {
        for (int what = 0; what < want.length; what++) {
            due.is("whole " + what, x.whole(what), want[what]);
        }
    }

    private static void areaWidths(AreaOrders x, int... want) {
        for (int a = 0; a < want.length; a++) {
            due.is("width of " + a, x.ofArea(a, 2), want[a]);
        }
    }

    private static void wholes() {
        all(Due.mapOf("m;p42;p63;p52;p11,0123,0213"), 6, 5, 13, 3, 11, 4);
        all(Due.mapOf("m;p11,0,0"), 1, 1, 0, 0, 1, 1);
        all(Due.mapOf("m;d91;d91;d91;d91;d91;d91,012345,543210"), 1, 108, 0, 5, 0, 6);
        all(Due.mapOf("m;p19;p19;p19;p19;p19;p19,012345,012345"), 54, 1, 0, 5, 63, 6);
    }

    private static void squeezing() {
        AreaOrders x = Due.mapOf("m;p12;p94;p14,012,012");
        due.is("as it is", x.squeeze(10), 0);
        due.is("one round", x.squeeze(9), 1);
        // Of the two widest ones the least number.
        areaWidths(x, 2, 3, 4);
        due.is("height is told anew", x.ofArea(1, 3), 3);
        due.is("two rounds", x.squeeze(7), 2);
        areaWidths(x, 2, 2, 3);
        due.is("breadth", x.whole(0), 7);
        due.is("to the least", x.squeeze(3), 4);
        areaWidths(x, 1, 1, 1);
    }

    private static void notToBe() {
        AreaOrders x = Due.mapOf("m;p12;p94;p14,012,012");
        due.is("three side by side", x.squeeze(2), -9);
        areaWidths(x, 2, 4, 4);
        due.is("breadth stays", x.whole(0), 10);
        due.is("one", Due.mapOf("m;p19,0,0").squeeze(1), 8);
        due.is("six in a row", Due.mapOf("m;p19;p19;p19;p19;p19;p19,012345,012345").squeeze(6), 48);
        due.is("six in a row", Due.mapOf("m;p19;p19;p19;p19;p19;p19,012345,012345").squeeze(5), -9);
        due.is("six above one another", Due.mapOf("m;p19;p19;p19;p19;p19;p19,012345,543210").squeeze(1), 48);
    }

    private static void notCritical() {
        // Two above one another, as wide: no one is critical, so the widest of all.
        AreaOrders x = Due.mapOf("m;p14;p14,01,10");
        due.is("none is critical", x.whole(4), 0);
        due.is("two rounds", x.squeeze(3), 2);
        areaWidths(x, 3, 3);
        // 0 is critical, but can't be less; 1 and 2 are as wide, and 3 is wider than each, but on its own.
        AreaOrders y = Due.mapOf("m;p11;p13;p13;p12,0123,3021");
        due.is("breadth", y.whole(0), 4);
        due.is("critical", y.whole(4), 1);
        due.is("rounds", y.squeeze(3), 2);
        areaWidths(y, 1, 2, 2, 2);
        // A critical one with a width above 1 comes ahead of a wider one that isn't critical.
        AreaOrders z = Due.mapOf("m;p12;p13;p14,012,201");
        due.is("critical ones", z.whole(4), 3);
        due.is("one round", z.squeeze(4), 1);
        areaWidths(z, 2, 2, 4);
    }

    private static void refusals() {
        AreaOrders x = new AreaOrders();
        due.is("whole -1", x.whole(-1), -2);
        due.is("whole 6", x.whole(6), -2);
        due.is("whole 4", x.whole(4), -3);
        due.is("whole 5", x.whole(5), 0);
        due.is("squeeze 0", x.squeeze(0), -2);
        due.is("squeeze 61", x.squeeze(61), -2);
        due.is("squeeze 60", x.squeeze(60), -3);
        Due.read(x, "m;p19,0,0");
        due.is("squeeze 60", x.squeeze(60), 0);
        due.is("squeeze 61", x.squeeze(61), -2);
        due.is("squeeze 0", x.squeeze(0), -2);
    }
}
