/** Promises 22 to 27: TELLING, SURVEYED, kinds that are taken, TRACE, FAULTS, how many. */
public final class PartsTest {
    private static final Due due = new Due();

    public static void main(String[] args) {
        bodies();
        wraps();
        taken();
        faults();
        many();
        due.end();
    }

    private static int traceOf(int... numbers) {
        int trace = 0;
        for (int number : numbers) {
            trace = 31 * trace + number;
        }
        return trace;
    }

    private static void told(int a, int want, int... numbers) {
        AreaOrders x = Due.mapOf("m;p72;b83;d94,012,012");
        due.is("tell " + a, x.tell(a), want);
        due.is("trace of tell " + a, x.trace(), traceOf(numbers));
    }

    private static void surveyed(int a, int want, int... numbers) {
        AreaOrders x = Due.mapOf("m;p72;b83;d94,012,012");
        due.is("survey " + a, x.survey(a), want);
        due.is("trace of survey " + a, x.trace(), traceOf(numbers));
    }

    private static void bodies() {
        told(0, 7, 1);
        told(1, 108, 2, 1);
        told(2, 118, 3, 2, 1, 1);
        surveyed(0, 2, 4);
        surveyed(1, 3, 4);
        surveyed(2, 34, 5, 4);
        AreaOrders x = Due.mapOf("m;p72;b83;d94,012,012");
        x.tell(2);
        x.survey(2);
        x.plot(0, 1);
        due.is("by the plot that is now", x.tell(0), 1);
        x.width(1, 9);
        due.is("by the width that is now", x.survey(1), 9);
        due.is("one behind another", x.trace(), traceOf(3, 2, 1, 1, 5, 4, 1, 4));
        due.is("nobody", x.tell(3), -1);
        due.is("nobody", x.survey(-1), -1);
        due.is("leaves nothing", x.trace(), traceOf(3, 2, 1, 1, 5, 4, 1, 4));
        due.is("no map", new AreaOrders().tell(0), -1);
        due.is("no map", new AreaOrders().survey(0), -1);
    }

    private static void wraps() {
        AreaOrders x = Due.mapOf("m;d99,0,0");
        int want = 0;
        for (int k = 0; k < 20; k++) {
            x.survey(0);
            want = (want * 31 + 5) * 31 + 4;
            due.is("trace", x.trace(), want);
        }
    }

    private static void taken() {
        AreaOrders x = Due.mapOf("m;p72;b83;d94,012,012");
        for (int a = 0; a < 3; a++) {
            for (int kind = 0; kind < 3; kind++) {
                due.is(a + " as " + kind, x.as(a, kind), kind <= a ? 1 : -12);
                due.is("fault", x.fault(), kind <= a ? 0 : 2);
            }
        }
        x.as(0, 2);
        due.is("kind 3", x.as(0, 3), -2);
        due.is("refused", x.fault(), 0);
        due.is("kind -1", x.as(0, -1), -2);
        x.as(0, 2);
        due.is("nobody, ahead of kind", x.as(3, 3), -1);
        due.is("refused", x.fault(), 0);
        due.is("no map", new AreaOrders().as(0, 0), -1);
        due.is("no trace", x.trace(), 0);
    }

    private static void faults() {
        AreaOrders x = Due.mapOf("m;p72;b83;d94,012,012");
        x.as(0, 2);
        // Calls that name no FAULT leave it; refused ones, too.
        x.ofArea(9, 9);
        x.width(0, 3);
        x.plot(0, 3);
        x.turn(0, 0);
        x.whole(0);
        x.squeeze(50);
        x.least(-1);
        x.reading(0, 0);
        x.back(1);
        x.kinds(0);
        x.widths(0);
        x.odds(1, 1);
        x.odds(-1, 1);
        x.lose(9);
        x.lose(3);
        x.tell(0);
        x.survey(0);
        x.trace();
        x.many(9);
        due.is("fault stays", x.fault(), 2);
        due.is("fault stays", x.fault(), 2);
        x.sheet(0, 0, 1);
        due.is("came to none", x.fault(), 0);
        x.sheet(0, 0, -1);
        x.put(0, 0, 1);
        due.is("came to none", x.fault(), 0);
        x.put(0, 1, 1);
        x.copy(0, 0, 0, 0, 1);
        due.is("came to none", x.fault(), 0);
        x.put(0, 1, 1);
        x.day(0, 0, 0, 0, 0);
        due.is("came to none", x.fault(), 0);
        x.put(0, 1, 1);
        x.wishes(0, 0, 0, 0);
        due.is("came to none", x.fault(), 0);
        x.put(0, 1, 1);
        x.day(9, 0, 0, 0, 0);
        due.is("refused", x.fault(), 0);
        x.put(0, 1, 1);
        x.wishes(9, 0, 0, 0);
        due.is("refused", x.fault(), 0);
        x.put(0, 1, 1);
        x.map(9, 0, 0, 0);
        due.is("refused", x.fault(), 0);
        x.put(0, 1, 1);
        x.sheet(9, 0, 0);
        due.is("refused", x.fault(), 0);
    }

    private static void many() {
        AreaOrders x = Due.mapOf("m;p42;p63;p52;p11,0123,0213");
        x.reading(0, 0);
        x.reading(0, 0);
        int[] want = {4, 6, 5, 2};
        for (int what = 0; what < 4; what++) {
            due.is("many " + what, x.many(what), want[what]);
        }
        x.width(1, 9);
        due.is("breadth", x.many(1), 12);
        due.is("many -1", x.many(-1), -2);
        due.is("many 4", x.many(4), -2);
        due.is("many 4", new AreaOrders().many(4), -2);
    }
}
