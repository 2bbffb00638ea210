/** Boundary cases of promises 17 to 27, sentence by sentence: SHEETS, bodies, kinds that are taken, FAULTS, how many. */
public final class Boundary4Test {
    private static final int UNKNOWN = -1, OUTSIDE = -2;
    private static final int MIN = Integer.MIN_VALUE, MAX = Integer.MAX_VALUE;
    private static final long LOST = Long.MIN_VALUE;
    private static final String THREE = "m;p72;b83;d94,012,012";

    private final Sentences s;

    private Boundary4Test(Sentences s) {
        this.s = s;
    }

    public static void main(String[] args) {
        Sentences s = new Sentences();
        all(s);
        s.end();
    }

    static void all(Sentences s) {
        Boundary4Test test = new Boundary4Test(s);
        test.rows();
        test.lanes();
        test.rowsRefused();
        test.lost();
        test.puts();
        test.cells();
        test.copies();
        test.copiesRefused();
        test.told();
        test.surveyed();
        test.trace();
        test.taken();
        test.faultOfNone();
        test.faultStays();
        test.faultIsGone();
        test.many();
    }

    private void row(AreaOrders x, int k, int lane, int... want) {
        for (int i = 0; i < want.length; i++) {
            s.is("cell(" + k + ", " + i + ", " + lane + ")", x.cell(k, i, lane), want[i]);
        }
    }

    // Promises 17 and 18

    private void rows() {
        s.of(17, "SHEETS 0 .. 3 have nothing (at first), or a row of 0 .. 60 numbers (0 at first) of a LANE");
        AreaOrders x = new AreaOrders();
        s.is("put(0, 0, 1), at first", x.put(0, 0, 1), -11);
        s.is("put(3, 0, 1), at first", x.put(3, 0, 1), -11);
        s.is("sheet(0, 0, 0)", x.sheet(0, 0, 0), 1);
        s.is("put(0, 0, 1)", x.put(0, 0, 1), -13);
        s.is("sheet(3, 2, 60)", x.sheet(3, 2, 60), 1);
        row(x, 3, 2, new int[60]);
        s.is("put(3, 59, 1)", x.put(3, 59, 1), 1);
        s.is("put(3, 60, 1)", x.put(3, 60, 1), -13);
        s.of(17, "A SHEET gets a new row: 1");
        for (int i = 0; i < 60; i++) {
            x.put(3, i, 7);
        }
        s.is("sheet(3, 2, 60), once more", x.sheet(3, 2, 60), 1);
        row(x, 3, 2, new int[60]);
        x.put(3, 2, 7);
        x.put(3, 4, 7);
        s.is("a shorter one of another LANE", x.sheet(3, 0, 3), 1);
        row(x, 3, 0, 0, 0, 0);
        s.is("cell 3 of it", x.cell(3, 3, 0), LOST);
        s.is("a longer one", x.sheet(3, 2, 5), 1);
        row(x, 3, 2, 0, 0, 0, 0, 0);
        s.is("SHEET 0 has its own one", x.put(0, 0, 1), -13);
    }

    private void lanes() {
        s.of(17, "0 bytes, 1 shorts, 2 ints; what comes to a cell of it is cut to its LANE");
        AreaOrders x = new AreaOrders();
        int[][] puts = {{127, 127, 127, 127}, {128, -128, 128, 128}, {255, -1, 255, 255}, {256, 0, 256, 256},
            {-128, -128, -128, -128}, {-129, 127, -129, -129}, {32767, -1, 32767, 32767}, {32768, 0, -32768, 32768},
            {65535, -1, -1, 65535}, {65536, 0, 0, 65536}, {-32768, 0, -32768, -32768}, {-32769, -1, 32767, -32769},
            {MAX, -1, -1, MAX}, {MIN, 0, 0, MIN}};
        for (int lane = 0; lane <= 2; lane++) {
            x.sheet(lane, lane, 1);
            for (int[] put : puts) {
                x.put(lane, 0, put[0]);
                s.is(put[0] + " in lane " + lane, x.cell(lane, 0, lane), put[lane + 1]);
            }
        }
    }

    private void rowsRefused() {
        AreaOrders x = new AreaOrders();
        s.of(17, "UNKNOWN");
        for (int k : new int[] {MIN, -1, 4, MAX}) {
            s.is("sheet(" + k + ", 0, 1)", x.sheet(k, 0, 1), UNKNOWN);
            s.is("sheet(" + k + ", 3, -1)", x.sheet(k, 3, -1), UNKNOWN);
        }
        s.of(17, "OUTSIDE: lane, n above 60");
        for (int lane : new int[] {MIN, -1, 3, MAX}) {
            s.is("sheet(0, " + lane + ", 1)", x.sheet(0, lane, 1), OUTSIDE);
            s.is("sheet(0, " + lane + ", -1)", x.sheet(0, lane, -1), OUTSIDE);
        }
        s.is("sheet(0, 0, 61)", x.sheet(0, 0, 61), OUTSIDE);
        s.is("sheet(0, 0, MAX)", x.sheet(0, 0, MAX), OUTSIDE);
        s.is("sheet(1, 0, 60)", x.sheet(1, 0, 60), 1);
        s.of(17, "SIZE");
        s.is("sheet(0, 0, -1)", x.sheet(0, 0, -1), -14);
        s.is("sheet(0, 2, MIN)", x.sheet(0, 2, MIN), -14);
        s.is("fault()", x.fault(), 4);
        s.is("SHEET 0 has nothing", x.lose(0), 0);
        s.is("SHEET 1 has what it had", x.lose(1), 1);
    }

    private void lost() {
        AreaOrders x = new AreaOrders();
        s.of(18, "A SHEET has nothing: 1; 0: it had nothing");
        s.is("lose(0), at first", x.lose(0), 0);
        x.sheet(0, 0, 0);
        x.sheet(3, 0, 1);
        s.is("a row of no cells", x.lose(0), 1);
        s.is("once more", x.lose(0), 0);
        s.is("nothing is there", x.put(0, 0, 1), -11);
        s.is("SHEET 3", x.lose(3), 1);
        s.is("SHEET 3, once more", x.lose(3), 0);
        s.of(18, "UNKNOWN");
        for (int k : new int[] {MIN, -1, 4, MAX}) {
            s.is("lose(" + k + ")", x.lose(k), UNKNOWN);
        }
    }

    // Promises 19 and 20

    private void puts() {
        AreaOrders x = new AreaOrders();
        x.sheet(0, 1, 3);
        x.sheet(3, 2, 60);
        s.of(19, "Cell i of a SHEET becomes v: 1");
        s.is("put(0, 0, 5)", x.put(0, 0, 5), 1);
        s.is("put(0, 2, 65536 - 6)", x.put(0, 2, 65530), 1);
        row(x, 0, 1, 5, 0, -6);
        s.is("put(3, 59, MIN)", x.put(3, 59, MIN), 1);
        s.is("cell(3, 59, 2)", x.cell(3, 59, 2), MIN);
        s.of(19, "UNKNOWN");
        for (int k : new int[] {MIN, -1, 4, MAX}) {
            s.is("put(" + k + ", 0, 1)", x.put(k, 0, 1), UNKNOWN);
            s.is("put(" + k + ", -1, 1)", x.put(k, -1, 1), UNKNOWN);
        }
        s.of(19, "NULL");
        s.is("put(1, 0, 1)", x.put(1, 0, 1), -11);
        s.is("put(1, -1, 1), ahead of INDEX", x.put(1, -1, 1), -11);
        s.of(19, "INDEX");
        for (int i : new int[] {MIN, -1, 3, 59, 60, MAX}) {
            s.is("put(0, " + i + ", 1)", x.put(0, i, 1), -13);
        }
        s.is("put(3, 60, 1)", x.put(3, 60, 1), -13);
        row(x, 0, 1, 5, 0, -6);
    }

    private void cells() {
        AreaOrders x = new AreaOrders();
        x.sheet(0, 1, 3);
        x.put(0, 0, -7);
        x.put(0, 2, 9);
        s.of(20, "Cell i of what a SHEET has, taken as a row of a LANE");
        row(x, 0, 1, -7, 0, 9);
        s.is("fault()", x.fault(), 0);
        s.of(20, "LOST: UNKNOWN, OUTSIDE: lane");
        for (int far : new int[] {MIN, -1, 4, MAX}) {
            s.is("cell(" + far + ", 0, 1)", x.cell(far, 0, 1), LOST);
            s.is("fault()", x.fault(), 0);
        }
        for (int lane : new int[] {MIN, -1, 3, MAX}) {
            s.is("cell(0, 0, " + lane + ")", x.cell(0, 0, lane), LOST);
            s.is("fault()", x.fault(), 0);
            s.is("cell(1, 0, " + lane + ")", x.cell(1, 0, lane), LOST);
            s.is("fault()", x.fault(), 0);
        }
        s.of(20, "FAULTS CAST (nothing is no CAST), NULL, INDEX");
        for (int lane = 0; lane <= 2; lane++) {
            s.is("nothing, by lane " + lane, x.cell(1, -1, lane), LOST);
            s.is("fault()", x.fault(), 1);
        }
        for (int lane = 0; lane <= 2; lane += 2) {
            s.is("shorts by lane " + lane, x.cell(0, -1, lane), LOST);
            s.is("fault()", x.fault(), 2);
        }
        for (int i : new int[] {MIN, -1, 3, 60, MAX}) {
            s.is("cell(0, " + i + ", 1)", x.cell(0, i, 1), LOST);
            s.is("fault()", x.fault(), 3);
        }
    }

    // Promise 21

    private void copies() {
        s.of(21, "n cells of a SHEET from i on go to another one (perhaps the same) from j on, as they were: n");
        AreaOrders x = new AreaOrders();
        Due.fill(x, 0, 1, 1, 2, 3, 4, 5);
        Due.fill(x, 3, 1, 9, 9, 9);
        s.is("the last three", x.copy(0, 2, 3, 0, 3), 3);
        row(x, 3, 1, 3, 4, 5);
        row(x, 0, 1, 1, 2, 3, 4, 5);
        s.is("one to the last", x.copy(0, 0, 3, 2, 1), 1);
        row(x, 3, 1, 3, 4, 1);
        s.is("to itself, one on", x.copy(0, 0, 0, 1, 4), 4);
        row(x, 0, 1, 1, 1, 2, 3, 4);
        s.is("to itself, one back", x.copy(0, 1, 0, 0, 4), 4);
        row(x, 0, 1, 1, 2, 3, 4, 4);
        s.is("to itself, all", x.copy(0, 0, 0, 0, 5), 5);
        row(x, 0, 1, 1, 2, 3, 4, 4);
        s.is("none", x.copy(0, 0, 3, 0, 0), 0);
        s.is("none, from and to the end", x.copy(0, 5, 3, 3, 0), 0);
        row(x, 3, 1, 3, 4, 1);
        for (int lane = 0; lane <= 2; lane++) {
            x.sheet(0, lane, 60);
            x.sheet(3, lane, 60);
            x.put(0, 0, -1);
            x.put(0, 59, 8);
            s.is("sixty of lane " + lane, x.copy(0, 0, 3, 0, 60), 60);
            s.is("the first", x.cell(3, 0, lane), -1);
            s.is("the last", x.cell(3, 59, lane), 8);
        }
    }

    private void copiesRefused() {
        AreaOrders x = new AreaOrders();
        Due.fill(x, 0, 1, 1, 2, 3, 4, 5);
        Due.fill(x, 1, 1, 9, 9, 9);
        Due.fill(x, 2, 2, 9, 9, 9);
        s.of(21, "UNKNOWN");
        for (int k : new int[] {MIN, -1, 4, MAX}) {
            s.is("copy(" + k + ", 0, 3, 0, -1)", x.copy(k, 0, 3, 0, -1), UNKNOWN);
            s.is("copy(3, 0, " + k + ", 0, -1)", x.copy(3, 0, k, 0, -1), UNKNOWN);
        }
        s.of(21, "FAULTS NULL (the first, the other)");
        s.is("the first", x.copy(3, 0, 0, 0, 1), -11);
        s.is("the other", x.copy(0, 0, 3, 0, 1), -11);
        s.is("both", x.copy(3, 0, 3, 0, 1), -11);
        s.is("ahead of INDEX", x.copy(0, -1, 3, 0, -1), -11);
        s.is("none", x.copy(3, 0, 3, 0, 0), -11);
        s.of(21, "CAST (unlike LANES)");
        s.is("shorts to ints", x.copy(0, 0, 2, 0, 1), -12);
        s.is("ints to shorts", x.copy(2, 0, 0, 0, 1), -12);
        s.is("none", x.copy(0, 0, 2, 0, 0), -12);
        s.is("ahead of INDEX", x.copy(0, -1, 2, 9, -1), -12);
        s.of(21, "INDEX: i, j, n below 0 or beyond");
        int[][] outs = {{-1, 0, 1}, {MIN, 0, 1}, {0, -1, 1}, {0, MIN, 1}, {0, 0, -1}, {0, 0, MIN}, {5, 0, 1}, {6, 0, 0},
            {0, 3, 1}, {0, 4, 0}, {3, 0, 3}, {0, 1, 3}, {0, 0, 4}, {-1, 0, 0}, {0, -1, 0}, {0, 0, MAX}, {1, 0, MAX},
            {0, 1, MAX}, {MAX, 0, 1}, {0, MAX, 1}, {MAX, MAX, MAX}, {5, 3, -1}};
        for (int[] out : outs) {
            String call = "copy(0, " + out[0] + ", 1, " + out[1] + ", " + out[2] + ")";
            s.is(call, x.copy(0, out[0], 1, out[1], out[2]), -13);
        }
        row(x, 1, 1, 9, 9, 9);
        s.is("all that goes", x.copy(0, 2, 1, 0, 3), 3);
    }

    // Promises 22, 23 and 25

    private static int traceOf(int... numbers) {
        int trace = 0;
        for (int number : numbers) {
            trace = 31 * trace + number;
        }
        return trace;
    }

    private void told() {
        AreaOrders x = Due.mapOf(THREE);
        s.of(22, "PLAIN (1): PLOT.");
        s.is("tell(0)", x.tell(0), 7);
        s.is("trace()", x.trace(), 1);
        s.of(22, "BROAD (2): what PLAIN's gives, and 100.");
        s.is("tell(1)", x.tell(1), 108);
        s.is("trace()", x.trace(), traceOf(1, 2, 1));
        s.of(22, "DOUBLE (3): what BROAD's gives, and what PLAIN's gives (BROAD's left out).");
        s.is("tell(2)", x.tell(2), 118);
        s.is("trace()", x.trace(), traceOf(1, 2, 1, 3, 2, 1, 1));
        s.of(22, "TELLING of an AREA");
        x.plot(2, 1);
        s.is("by a PLOT of 1", x.tell(2), 102);
        x.plot(0, 9);
        s.is("by a PLOT of 9", x.tell(0), 9);
        s.of(22, "UNKNOWN");
        int was = x.trace();
        for (int a : new int[] {MIN, -1, 3, MAX}) {
            s.is("tell(" + a + ")", x.tell(a), UNKNOWN);
        }
        s.is("nothing is left in TRACE", x.trace(), was);
        s.is("tell(0) without a MAP", new AreaOrders().tell(0), UNKNOWN);
    }

    private void surveyed() {
        AreaOrders x = Due.mapOf(THREE);
        s.of(23, "SURVEYED by a lent body (4): WIDTH; ");
        s.is("survey(0)", x.survey(0), 2);
        s.is("trace()", x.trace(), 4);
        s.is("survey(1)", x.survey(1), 3);
        s.is("trace()", x.trace(), traceOf(4, 4));
        s.of(23, "DOUBLE ones have their own (5): what the lent body gives, and 30 (4 behind 5).");
        s.is("survey(2)", x.survey(2), 34);
        s.is("trace()", x.trace(), traceOf(4, 4, 5, 4));
        s.of(23, "How it is SURVEYED");
        x.width(2, 9);
        s.is("by a WIDTH of 9", x.survey(2), 39);
        x.width(0, 1);
        s.is("by a WIDTH of 1", x.survey(0), 1);
        s.of(23, "UNKNOWN");
        int was = x.trace();
        for (int a : new int[] {MIN, -1, 3, MAX}) {
            s.is("survey(" + a + ")", x.survey(a), UNKNOWN);
        }
        s.is("nothing is left in TRACE", x.trace(), was);
        s.is("survey(0) without a MAP", new AreaOrders().survey(0), UNKNOWN);
    }

    private void trace() {
        s.of(25, "TELLING of AREAS by bodies that leave their number in TRACE (an int that wraps, 0 at first, "
            + "becomes 31 times it and the number) as they begin");
        s.is("at first", new AreaOrders().trace(), 0);
        AreaOrders x = Due.mapOf(THREE);
        s.is("with a MAP", x.trace(), 0);
        x.tell(2);
        // As they begin: 3, 2, 1, 1.
        s.is("one", x.trace(), 91327);
        x.tell(2);
        // 91327 times 923521 and 91327 is 84342493694: less 20 times 4294967296 it is an int below 0.
        s.is("it wraps", x.trace(), (int) (84342493694L - 20 * 4294967296L));
        s.of(25, "TRACE.");
        AreaOrders y = Due.mapOf(THREE);
        y.survey(2);
        y.tell(1);
        s.is("5, 4, 2, 1", y.trace(), traceOf(5, 4, 2, 1));
        s.is("asked once more", y.trace(), traceOf(5, 4, 2, 1));
        Due.read(y, THREE);
        s.is("a TEXT leaves it", y.trace(), traceOf(5, 4, 2, 1));
    }

    // Promise 24

    private void taken() {
        AreaOrders x = Due.mapOf(THREE);
        s.of(24, "An AREA, taken as one of a kind: 1");
        for (int kind = 0; kind <= 2; kind++) {
            s.is("as(" + kind + ", " + kind + ")", x.as(kind, kind), 1);
        }
        s.of(24, "UNKNOWN");
        for (int a : new int[] {MIN, -1, 3, MAX}) {
            s.is("as(" + a + ", 0)", x.as(a, 0), UNKNOWN);
            s.is("as(" + a + ", 3)", x.as(a, 3), UNKNOWN);
        }
        s.is("without a MAP", new AreaOrders().as(0, 0), UNKNOWN);
        s.of(24, "OUTSIDE");
        for (int kind : new int[] {MIN, -1, 3, MAX}) {
            s.is("as(2, " + kind + ")", x.as(2, kind), OUTSIDE);
            s.is("as(0, " + kind + "), ahead of CAST", x.as(0, kind), OUTSIDE);
        }
        s.of(24, "CAST: it is none (each is a PLAIN one, too; a DOUBLE one is a BROAD one)");
        int[][] want = {{1, -12, -12}, {1, 1, -12}, {1, 1, 1}};
        for (int a = 0; a <= 2; a++) {
            for (int kind = 0; kind <= 2; kind++) {
                s.is("as(" + a + ", " + kind + ")", x.as(a, kind), want[a][kind]);
            }
        }
    }

    // Promise 26

    /** The latest call came to the FAULT NULL. */
    private static AreaOrders failed() {
        AreaOrders x = Due.mapOf(THREE);
        x.sheet(0, 2, 3);
        x.put(2, 0, 0);
        return x;
    }

    private void faultOfNone() {
        s.of(26, "(0 ahead of any)");
        s.is("a new object", new AreaOrders().fault(), 0);
        s.of(26, "The FAULT of the latest call that names one");
        AreaOrders x = failed();
        s.is("NULL", x.fault(), 1);
        s.is("asked once more", x.fault(), 1);
        x.as(0, 1);
        s.is("CAST", x.fault(), 2);
        x.put(0, 3, 0);
        s.is("INDEX", x.fault(), 3);
        x.sheet(0, 0, -1);
        s.is("SIZE", x.fault(), 4);
        x.copy(0, 0, 2, 0, 0);
        s.is("NULL again", x.fault(), 1);
    }

    private void faultStays() {
        s.of(26, "fault(), of a call that names FAULTS");
        AreaOrders x = failed();
        int[] answers = {x.ofArea(0, 0), x.ofArea(9, 0), x.width(0, 3), x.width(0, 0), x.plot(0, 3), x.plot(0, 0),
            x.turn(0, 0), x.turn(2, 0), x.whole(0), x.whole(9), x.squeeze(60), x.squeeze(0), x.squeeze(2), x.least(0),
            x.least(9), x.reading(0, 0), x.reading(9, 0), x.back(0), x.back(9), x.kinds(0), x.kinds(9), x.widths(0),
            x.widths(9), (int) x.odds(0, 0), (int) x.odds(0, 9), x.lose(1), x.lose(9), x.tell(0), x.tell(9),
            x.survey(0), x.survey(9), x.trace(), x.many(0), x.many(9)};
        s.is("behind " + answers.length + " calls that name none", x.fault(), 1);
        AreaOrders bare = new AreaOrders();
        bare.put(0, 0, 0);
        int[] refused = {bare.whole(0), bare.squeeze(1), bare.least(0), (int) bare.odds(0, 0)};
        s.is("behind " + refused.length + " calls without a MAP", bare.fault(), 1);
    }

    private void gone(String call, AreaOrders x, long answer) {
        s.is("behind " + call + ", that answered " + answer, x.fault(), 0);
    }

    private void faultIsGone() {
        s.of(26, "0: it came to none");
        AreaOrders x = failed();
        gone("sheet", x, x.sheet(1, 0, 0));
        x.put(2, 0, 0);
        gone("put", x, x.put(0, 0, 1));
        x.put(2, 0, 0);
        gone("cell", x, x.cell(0, 0, 2));
        x.put(2, 0, 0);
        gone("copy", x, x.copy(0, 0, 0, 1, 1));
        x.put(2, 0, 0);
        gone("as", x, x.as(0, 0));
        x.put(2, 0, 0);
        gone("day", x, x.day(0, 2, 0, 0, 0));
        x.put(2, 0, 0);
        gone("wishes", x, x.wishes(0, 2, 0, 0));
        x.put(2, 0, 0);
        gone("map by no TEXT", x, x.map(0, 2, 0, 1));
        x.put(2, 0, 0);
        gone("map", x, x.map(3, 0, 0, THREE.length()));
        s.of(26, "or was refused");
        AreaOrders y = failed();
        gone("sheet", y, y.sheet(4, 0, 0));
        y.put(2, 0, 0);
        gone("sheet", y, y.sheet(0, 0, 61));
        y.put(2, 0, 0);
        gone("put", y, y.put(4, 0, 1));
        y.put(2, 0, 0);
        gone("cell", y, y.cell(0, 0, 3));
        y.put(2, 0, 0);
        gone("copy", y, y.copy(0, 0, 4, 1, 1));
        y.put(2, 0, 0);
        gone("as", y, y.as(0, 3));
        y.put(2, 0, 0);
        gone("day", y, y.day(0, 2, 0, 21, 0));
        y.put(2, 0, 0);
        gone("wishes", y, y.wishes(0, 3, 0, 0));
        y.put(2, 0, 0);
        gone("map", y, y.map(0, 3, 0, 0));
    }

    // Promise 27

    private void many() {
        s.of(27, "How many: 0 AREAS, 1 BREADTH, 2 DEPTH, 3 READINGS");
        AreaOrders x = Due.mapOf("m;p42;b63;d52;p11,0123,0213");
        x.reading(0, 0);
        x.reading(3, 120);
        int[] want = {4, 6, 8, 2};
        for (int what = 0; what <= 3; what++) {
            s.is("many(" + what + ")", x.many(what), want[what]);
        }
        x.width(3, 9);
        x.plot(2, 9);
        s.is("BREADTH then", x.many(1), 14);
        s.is("DEPTH then", x.many(2), 12);
        s.of(27, "(0 all without a MAP)");
        AreaOrders bare = new AreaOrders();
        Due.read(bare, "m;p11;p11,01,1");
        for (int what = 0; what <= 3; what++) {
            s.is("many(" + what + ")", bare.many(what), 0);
        }
        s.of(27, "OUTSIDE");
        for (int what : new int[] {MIN, -1, 4, MAX}) {
            s.is("many(" + what + ")", x.many(what), OUTSIDE);
            s.is("many(" + what + ") without a MAP", bare.many(what), OUTSIDE);
        }
    }
}
