/** Boundary cases of promises 10 to 16, sentence by sentence: LEAST, WISHES, READINGS, KINDS, WIDTHS, ODDS. */
public final class Boundary3Test {
    private static final int UNKNOWN = -1, OUTSIDE = -2, STATE = -3, FULL = -4, NONE = -9;
    private static final int MIN = Integer.MIN_VALUE, MAX = Integer.MAX_VALUE;
    private static final long LOST = Long.MIN_VALUE;
    private static final String FOUR = "m;p42;p63;p52;p11,0123,0213";
    private static final String SIX = "m;p11;p11;p11;p11;p11;p11,012345,543210";

    private final Sentences s;

    private Boundary3Test(Sentences s) {
        this.s = s;
    }

    public static void main(String[] args) {
        Sentences s = new Sentences();
        all(s);
        s.end();
    }

    static void all(Sentences s) {
        Boundary3Test test = new Boundary3Test(s);
        test.leastOrders();
        test.leastAsked();
        test.leastRefused();
        test.wishesMet();
        test.wishesRefused();
        test.wishesFaults();
        test.numbersOfReadings();
        test.readingsRefused();
        test.takenBack();
        test.kinds();
        test.widths();
        test.odds();
        test.oddsRefused();
    }

    // Promise 10

    private void leastIs(String text, int... want) {
        AreaOrders x = Due.mapOf(text);
        for (int k = -1; k <= 5; k++) {
            s.is("least(" + k + ") of " + text, x.least(k), k + 1 < want.length ? want[k + 1] : NONE);
        }
    }

    private void leastOrders() {
        s.of(10, "LEAST: the least BREADTH times DEPTH by any ORDER 1 (ORDER 0 as it is)");
        leastIs("m;p11,0,0", 1, 0);
        // 4 broad and 1 high above two of 2 by 2: 4 times 3.
        leastIs("m;p44;p42;p42,012,012", 12, 1, 2, 0);
        // 9 broad and 1 high above two of 1 by 9: 9 times 10.
        leastIs("m;p91;p91;p99,210,012", 90, 1, 0, 2);
        // The row is least alone, and its ORDER is the last one of all; then the first one.
        leastIs("m;p19;p19;p19;p19;p19;p11,543210,012345", 46, 5, 4, 3, 2, 1, 0);
        leastIs("m;p19;p19;p19;p19;p19;p11,012345,543210", 46, 0, 1, 2, 3, 4, 5);
        AreaOrders x = Due.mapOf("m;p44;p42;p42,012,021");
        String was = Seen.of(x);
        x.least(-1);
        x.least(0);
        s.same("all stays", Seen.of(x), was);
        s.of(10, "of several ORDERS the first one, by their AREAS (those that differ first)");
        leastIs("m;p42;p42,01,10", 8, 0, 1);
        leastIs("m;p42;p42,10,10", 8, 0, 1);
        leastIs(SIX, 6, 0, 1, 2, 3, 4, 5);
        leastIs("m;p11;p11;p11,120,012", 3, 0, 2, 1);
    }

    private void leastAsked() {
        s.of(10, "LEAST: BREADTH times DEPTH (k -1), the AREA in place k (0 .. 5) of that ORDER 1");
        AreaOrders x = Due.mapOf("m;p19;p19;p19;p19;p19;p19,543210,012345");
        int[] want = {54, 0, 1, 2, 3, 4, 5};
        for (int k = -1; k <= 5; k++) {
            s.is("least(" + k + ")", x.least(k), want[k + 1]);
        }
        s.of(10, "NONE: there is no such place");
        AreaOrders five = Due.mapOf("m;p11;p11;p11;p11;p11,01234,01234");
        s.is("the last place", five.least(4), 4);
        s.is("the place behind it", five.least(5), NONE);
        AreaOrders one = Due.mapOf("m;p11,0,0");
        s.is("the only place", one.least(0), 0);
        s.is("the place behind it", one.least(1), NONE);
        s.is("place 5", one.least(5), NONE);
    }

    private void leastRefused() {
        AreaOrders x = Due.mapOf("m;p11,0,0");
        AreaOrders bare = new AreaOrders();
        s.of(10, "OUTSIDE");
        for (int k : new int[] {MIN, -2, 6, MAX}) {
            s.is("least(" + k + ")", x.least(k), OUTSIDE);
            s.is("least(" + k + ") without a MAP", bare.least(k), OUTSIDE);
        }
        s.of(10, "STATE: there is no MAP");
        for (int k = -1; k <= 5; k++) {
            s.is("least(" + k + ") without a MAP", bare.least(k), STATE);
        }
    }

    // Promise 11

    private int wished(AreaOrders x, int... cells) {
        Due.fill(x, 0, 2, cells);
        return x.wishes(0, 2, 0, cells.length / 2);
    }

    private void wishesMet() {
        AreaOrders x = Due.mapOf(FOUR);
        s.of(11, "WISHES told as a row of pairs of AREAS: MET are those that TOUCH (one and itself do not)");
        s.is("0 and 1", wished(x, 0, 1), 1);
        s.is("1 and 0", wished(x, 1, 0), 1);
        s.is("0 and 2, by a corner", wished(x, 0, 2), 0);
        for (int a = 0; a <= 3; a++) {
            s.is(a + " and itself", wished(x, a, a), 0);
        }
        s.is("the same twice", wished(x, 0, 1, 0, 1, 1, 0), 3);
        s.of(11, "WISHES told by n pairs, that are cells of a SHEET from i on (2 n): how many are MET");
        s.is("no pair", wished(x), 0);
        for (int lane = 0; lane <= 2; lane++) {
            Due.fill(x, 2, lane, 9, 0, 1, 1, 2, 9);
            s.is("two from 1 on", x.wishes(2, lane, 1, 2), 2);
            s.is("one from 1 on", x.wishes(2, lane, 1, 1), 1);
            s.is("one from 2 on", x.wishes(2, lane, 2, 1), 0);
            s.is("none at the end", x.wishes(2, lane, 6, 0), 0);
        }
        int[] forty = new int[60];
        for (int k = 20; k < 60; k += 2) {
            forty[k] = 1;
        }
        Due.fill(x, 2, 0, forty);
        s.is("twenty", x.wishes(2, 0, 20, 20), 20);
        s.is("twenty, ten of them of 0 and itself", x.wishes(2, 0, 0, 20), 10);
    }

    private void wishesRefused() {
        AreaOrders x = Due.mapOf(FOUR);
        s.of(11, "UNKNOWN: SHEET");
        for (int k : new int[] {MIN, -1, 4, MAX}) {
            s.is("wishes(" + k + ", 0, 0, 0)", x.wishes(k, 0, 0, 0), UNKNOWN);
            s.is("wishes(" + k + ", 3, 0, 21)", x.wishes(k, 3, 0, 21), UNKNOWN);
        }
        s.of(11, "OUTSIDE: lane, n (0 .. 20)");
        for (int lane : new int[] {MIN, -1, 3, MAX}) {
            s.is("wishes(0, " + lane + ", 0, 0)", x.wishes(0, lane, 0, 0), OUTSIDE);
        }
        for (int n : new int[] {MIN, -1, 21, MAX, 1 << 30}) {
            s.is("wishes(0, 0, 0, " + n + ")", x.wishes(0, 0, 0, n), OUTSIDE);
        }
        s.is("n 20 isn't", x.wishes(0, 0, 0, 20), -11);
    }

    private void wishesFaults() {
        AreaOrders x = Due.mapOf(FOUR);
        s.of(11, "FAULTS CAST, NULL, INDEX");
        s.is("nothing", x.wishes(0, 1, -1, 1), -11);
        Due.fill(x, 0, 1, 0, 1, 9);
        s.is("shorts as bytes", x.wishes(0, 0, -1, 1), -12);
        s.is("shorts as ints", x.wishes(0, 2, 0, 0), -12);
        s.is("one from 2 on", x.wishes(0, 1, 2, 1), -13);
        s.is("two", x.wishes(0, 1, 0, 2), -13);
        s.is("INDEX ahead of a cell", x.wishes(0, 1, 2, 20), -13);
        s.is("i -1", x.wishes(0, 1, -1, 1), -13);
        s.is("i MAX", x.wishes(0, 1, MAX, 20), -13);
        s.is("i MIN", x.wishes(0, 1, MIN, 1), -13);
        s.of(11, "STATE: there is no MAP");
        AreaOrders bare = new AreaOrders();
        s.is("no pair", wished(bare), STATE);
        s.is("ahead of a cell", wished(bare, 0, 9), STATE);
        s.of(11, "UNKNOWN: a cell is no AREA");
        for (int a : new int[] {MIN, -1, 4, MAX}) {
            s.is(a + " first", wished(x, a, 0), UNKNOWN);
            s.is(a + " last", wished(x, 0, 1, 0, a), UNKNOWN);
            s.is(a + " and itself", wished(x, a, a), UNKNOWN);
        }
        s.is("AREA 3", wished(x, 3, 1), 1);
        Due.fill(x, 0, 2, 0, 1, 4);
        s.is("the cell behind the pairs isn't looked at", x.wishes(0, 2, 0, 1), 1);
    }

    // Promises 12 and 13

    private void numbersOfReadings() {
        s.of(12, "READINGS, 8 at most, numbered by how many there are: Y of an AREA is v");
        AreaOrders x = Due.mapOf("m;p41;p11,01,10");
        for (int k = 0; k < 8; k++) {
            s.is("READINGS", x.many(3), k);
            s.is("the next one", x.reading(1, 4), k);
        }
        s.is("a ninth", x.reading(1, 4), FULL);
        s.is("READINGS", x.many(3), 8);
        s.of(12, "A READING: its number");
        AreaOrders y = Due.mapOf("m;p41;p11,01,10");
        s.is("v 0", y.reading(0, 0), 0);
        s.is("v 120", y.reading(0, 120), 1);
        s.is("the same once more", y.reading(0, 120), 2);
        y.back(2);
        s.is("behind back", y.reading(1, 4), 1);
        s.is("one that isn't so is one, too", y.kinds(0), 1);
    }

    private void readingsRefused() {
        AreaOrders x = Due.mapOf("m;p41;p11,01,10");
        s.of(12, "UNKNOWN");
        for (int a : new int[] {MIN, -1, 2, MAX}) {
            s.is("reading(" + a + ", 0)", x.reading(a, 0), UNKNOWN);
            s.is("reading(" + a + ", -1)", x.reading(a, -1), UNKNOWN);
        }
        s.of(12, "OUTSIDE: v (0 .. 120)");
        for (int v : new int[] {MIN, -1, 121, MAX}) {
            s.is("reading(1, " + v + ")", x.reading(1, v), OUTSIDE);
        }
        s.is("no READING was made", x.many(3), 0);
        s.of(12, "FULL");
        for (int k = 0; k < 8; k++) {
            x.reading(0, 0);
        }
        s.is("a ninth", x.reading(1, 4), FULL);
        s.is("UNKNOWN ahead of it", x.reading(2, 4), UNKNOWN);
        s.is("OUTSIDE ahead of it", x.reading(1, 121), OUTSIDE);
        x.back(1);
        s.is("an eighth again", x.reading(1, 4), 7);
        s.is("a ninth again", x.reading(1, 4), FULL);
        s.is("WIDTHS by eight", x.widths(0), 2);
    }

    private void takenBack() {
        AreaOrders x = Due.mapOf("m;p41;p11,01,10");
        s.of(13, "The last n READINGS (0 .. as many as there are) are taken back: how many are left");
        s.is("none of none", x.back(0), 0);
        x.reading(1, 4);
        x.reading(1, 5);
        x.reading(1, 8);
        s.is("none", x.back(0), 3);
        s.is("no KIND by all three", x.kinds(0), 0);
        s.is("the last two", x.back(2), 1);
        s.is("the first one stands", x.kinds(0), 1);
        s.is("all", x.back(1), 0);
        s.is("all KINDS by none", x.kinds(0), 7);
        for (int k = 0; k < 8; k++) {
            x.reading(0, 0);
        }
        s.is("eight", x.back(8), 0);
        s.of(13, "OUTSIDE");
        s.is("one of none", x.back(1), OUTSIDE);
        x.reading(0, 0);
        for (int n : new int[] {MIN, -1, 2, 8, MAX}) {
            s.is("back(" + n + ")", x.back(n), OUTSIDE);
        }
        s.is("READINGS", x.many(3), 1);
        s.is("without a MAP", new AreaOrders().back(1), OUTSIDE);
    }

    // Promises 14 and 15

    private void kinds() {
        s.of(14, "All that follows: in place of what it is alone, by which all READINGS are so: KINDS of an AREA: 0 .. 2");
        AreaOrders x = Due.mapOf("m;b42;p12;p11,012,210");
        // Y of 1 is the HEIGHT of 0: 2, 3, 4 by kind; Y of 2 is 1 more.
        x.reading(1, 3);
        s.is("KINDS of 0", x.kinds(0), 2);
        s.is("KINDS of 1, which is above 2 alone", x.kinds(1), 7);
        x.reading(2, 4);
        s.is("KINDS of 1, by both", x.kinds(1), 7);
        x.plot(1, 2);
        s.is("KINDS of 1, by both", x.kinds(1), 1);
        x.reading(2, 5);
        s.is("KINDS of 1, if not all can be so", x.kinds(1), 0);
        s.is("KINDS of 0, if not all can be so", x.kinds(0), 0);
        s.is("its kind stays", x.ofArea(0, 0), 1);
        s.of(14, "KINDS, as a set");
        AreaOrders y = Due.mapOf("m;d41;p11,01,10");
        s.is("without READINGS", y.kinds(0), 7);
        int[][] sets = {{4, 1}, {5, 2}, {8, 4}, {0, 0}, {120, 0}};
        for (int[] set : sets) {
            y.reading(1, set[0]);
            s.is("by Y " + set[0], y.kinds(0), set[1]);
            y.back(1);
        }
        s.of(14, "UNKNOWN");
        for (int a : new int[] {MIN, -1, 2, MAX}) {
            s.is("kinds(" + a + ")", y.kinds(a), UNKNOWN);
        }
        s.is("kinds(0) without a MAP", new AreaOrders().kinds(0), UNKNOWN);
    }

    private void widths() {
        s.of(15, "WIDTHS of an AREA: 1 .. 9; as sets");
        AreaOrders x = Due.mapOf("m;p93;p11,01,10");
        s.is("without READINGS", x.widths(0), 1022);
        // HEIGHT of 0 is 9, 5, 3, 3, 2, 2, 2, 2, 1 by WIDTH.
        int[][] sets = {{9, 2}, {5, 4}, {3, 24}, {2, 480}, {1, 512}, {4, 0}, {0, 0}};
        for (int[] set : sets) {
            x.reading(1, set[0]);
            s.is("by Y " + set[0], x.widths(0), set[1]);
            s.is("by Y " + set[0] + ", of 1", x.widths(1), set[0] == 3 ? 1022 : 0);
            x.back(1);
        }
        s.of(15, "WIDTHS, as a set");
        x.reading(0, 0);
        s.is("by Y 0 of the top", x.widths(0), 1022);
        x.reading(1, 1);
        s.is("by both", x.widths(0), 512);
        x.plot(0, 1);
        s.is("by another PLOT", x.widths(0), 1022);
        x.turn(1, 0);
        s.is("side by side", x.widths(0), 0);
        s.is("its WIDTH stays", x.ofArea(0, 2), 3);
        s.of(15, "UNKNOWN");
        for (int a : new int[] {MIN, -1, 2, MAX}) {
            s.is("widths(" + a + ")", x.widths(a), UNKNOWN);
        }
        s.is("widths(0) without a MAP", new AreaOrders().widths(0), UNKNOWN);
    }

    // Promise 16

    private void share(AreaOrders x, int v, int upper, int lower) {
        s.is("upper of " + v, x.odds(v, 0), upper);
        s.is("lower of " + v, x.odds(v, 1), lower);
    }

    /** Nothing is wasted by the row alone, and its ORDER is the last one of all. */
    private void rowAlone(String text, int v, int orders) {
        share(Due.mapOf(text), v, 1, orders);
        share(Due.mapOf(text), v - 1, 0, 1);
    }

    private void odds() {
        s.of(16, "ODDS of v: if ORDER 1 is any, all alike, the share of those by which BREADTH times DEPTH is v or less");
        // 012: 8 times 2; 021: 6 times 4; 102: 6 times 3; 120: 4 times 3; 201: 6 times 4; 210: 4 times 5.
        AreaOrders x = Due.mapOf("m;p44;p42;p42,012,210");
        String was = Seen.of(x);
        share(x, 11, 0, 1);
        share(x, 12, 1, 6);
        share(x, 15, 1, 6);
        share(x, 16, 1, 3);
        share(x, 18, 1, 2);
        share(x, 20, 2, 3);
        share(x, 23, 2, 3);
        share(x, 24, 1, 1);
        s.same("all stays", Seen.of(x), was);
        rowAlone("m;p11,0,0", 1, 1);
        rowAlone("m;p19;p11,10,01", 10, 2);
        rowAlone("m;p19;p19;p11,210,012", 19, 6);
        rowAlone("m;p19;p19;p19;p11,3210,0123", 28, 24);
        rowAlone("m;p19;p19;p19;p19;p11,43210,01234", 37, 120);
        rowAlone("m;p19;p19;p19;p19;p19;p11,543210,012345", 46, 720);
        s.of(16, "Shares are told as upper and lower number (above 0) in least terms");
        share(Due.mapOf("m;p11,0,0"), 0, 0, 1);
        share(Due.mapOf("m;p11,0,0"), 1, 1, 1);
        share(Due.mapOf("m;p11;p11,01,01"), 1, 0, 1);
        share(Due.mapOf("m;p11;p11,01,01"), 2, 1, 1);
        share(Due.mapOf("m;p44;p22,01,01"), 7, 1, 2);
        share(Due.mapOf("m;p11;p11;p11;p11;p11,43210,01234"), 5, 1, 60);
        // Of 720: a row, a pile, 25 of 3 by 2, 25 of 2 by 3.
        share(Due.mapOf(SIX), 6, 13, 180);
        s.of(16, "ODDS of v (0 .. 9999; which 0 the upper, 1 the lower number)");
        AreaOrders six = Due.mapOf("m;d91;p19;d91;p19;d91;p19,012345,012345");
        share(six, 0, 0, 1);
        share(six, 9999, 1, 1);
    }

    private void oddsRefused() {
        AreaOrders x = Due.mapOf("m;p11,0,0");
        s.of(16, "LOST: OUTSIDE");
        for (int v : new int[] {MIN, -1, 10000, MAX}) {
            s.is("odds(" + v + ", 0)", x.odds(v, 0), LOST);
            s.is("odds(" + v + ", 1)", x.odds(v, 1), LOST);
        }
        for (int which : new int[] {MIN, -1, 2, MAX}) {
            s.is("odds(0, " + which + ")", x.odds(0, which), LOST);
        }
        s.of(16, "STATE: there is no MAP");
        s.is("odds(0, 0)", new AreaOrders().odds(0, 0), LOST);
        s.is("odds(9999, 1)", new AreaOrders().odds(9999, 1), LOST);
    }
}
