/** Boundary cases of promises 7 to 9, sentence by sentence: the whole MAP, SQUEEZING, a DAY. */
public final class Boundary2Test {
    private static final int UNKNOWN = -1, OUTSIDE = -2, STATE = -3, NONE = -9;
    private static final int MIN = Integer.MIN_VALUE, MAX = Integer.MAX_VALUE;
    private static final String FOUR = "m;p42;b63;d52;p11,0123,0213";
    private static final String ROW = "m;p19;p19;p19;p19;p19;p19,012345,012345";
    private static final String PILE = "m;d91;d91;d91;d91;d91;d91,012345,543210";

    private final Sentences s;

    private Boundary2Test(Sentences s) {
        this.s = s;
    }

    public static void main(String[] args) {
        Sentences s = new Sentences();
        all(s);
        s.end();
    }

    static void all(Sentences s) {
        Boundary2Test test = new Boundary2Test(s);
        test.breadthAndDepth();
        test.wholes();
        test.wholesRefused();
        test.rounds();
        test.whoIsSqueezed();
        test.notToBe();
        test.squeezingRefused();
        test.acts();
        test.actsThatCanNotBe();
        test.answersOfDay();
        test.cellsOfDay();
        test.dayRefused();
        test.faultsOfDay();
        test.sorts();
    }

    private void whole(String text, int what, int want) {
        s.is("whole(" + what + ") of " + text, Due.mapOf(text).whole(what), want);
    }

    private void widths(AreaOrders x, int... want) {
        for (int a = 0; a < want.length; a++) {
            s.is("WIDTH of " + a, x.ofArea(a, 2), want[a]);
        }
    }

    // Promise 7

    private void breadthAndDepth() {
        s.of(7, "BREADTH of the MAP: the greatest X and WIDTH together of all AREAS");
        whole("m;p11,0,0", 0, 1);
        whole("m;p19;p11,01,10", 0, 9);
        whole("m;p11;p19,01,10", 0, 9);
        whole(ROW, 0, 54);
        s.of(7, "DEPTH likewise by Y and HEIGHT");
        whole("m;p11,0,0", 1, 1);
        whole("m;p91;p11,01,01", 1, 9);
        whole("m;p11;p91,01,01", 1, 9);
        whole(PILE, 1, 108);
        s.of(7, "WASTE: BREADTH times DEPTH less WIDTH times HEIGHT of all AREAS");
        whole("m;p11,0,0", 2, 0);
        whole("m;p19;p91,01,01", 2, 72);
        // Not by SIZE: 5 by 4 is 2 high.
        whole("m;p54,0,0", 2, 0);
        whole(ROW, 2, 0);
        whole(PILE, 2, 0);
    }

    private void wholes() {
        s.of(7, "Of the MAP: 0 BREADTH, 1 DEPTH, 2 WASTE, 3 how many twos TOUCH, 4 CRITICAL ones, as a set, "
            + "5 how many AREAS were ever read");
        int[][] want = {{6, 8, 24, 3, 11, 4}, {1, 1, 0, 0, 1, 1}, {54, 1, 0, 5, 63, 6}, {1, 108, 0, 5, 0, 6}};
        String[] texts = {FOUR, "m;p11,0,0", ROW, PILE};
        for (int t = 0; t < texts.length; t++) {
            for (int what = 0; what <= 5; what++) {
                whole(texts[t], what, want[t][what]);
            }
        }
    }

    private void wholesRefused() {
        AreaOrders x = Due.mapOf(FOUR);
        AreaOrders bare = new AreaOrders();
        s.of(7, "OUTSIDE");
        for (int what : new int[] {MIN, -1, 6, MAX}) {
            s.is("whole(" + what + ")", x.whole(what), OUTSIDE);
            s.is("whole(" + what + ") without a MAP", bare.whole(what), OUTSIDE);
        }
        s.of(7, "STATE: there is no MAP (but of 5)");
        Due.read(bare, "m;p11;p11,01,1");
        for (int what = 0; what <= 4; what++) {
            s.is("whole(" + what + ") without a MAP", bare.whole(what), STATE);
        }
        s.is("whole(5) without a MAP", bare.whole(5), 2);
    }

    // Promise 8

    private void rounds() {
        s.of(8, "SQUEEZING to v: ROUND by ROUND, as long as BREADTH is more than v");
        AreaOrders x = Due.mapOf("m;p95;p94,01,01");
        s.is("BREADTH is v", x.squeeze(9), 0);
        s.is("BREADTH is less than v", x.squeeze(10), 0);
        widths(x, 5, 4);
        s.is("BREADTH is 1 more than v", x.squeeze(8), 1);
        widths(x, 4, 4);
        s.is("HEIGHT then", x.ofArea(0, 3), 3);
        s.is("X then", x.ofArea(1, 4), 4);
        s.is("BREADTH then", x.whole(0), 8);
        s.of(8, "SQUEEZING to v (1 .. 60): how many ROUNDS");
        s.is("squeeze(1)", Due.mapOf("m;p19,0,0").squeeze(1), 8);
        s.is("squeeze(60) of the broadest one", Due.mapOf(ROW).squeeze(60), 0);
        s.is("squeeze(54) of the broadest one", Due.mapOf(ROW).squeeze(54), 0);
        s.is("squeeze(53) of the broadest one", Due.mapOf(ROW).squeeze(53), 1);
        AreaOrders row = Due.mapOf(ROW);
        s.is("squeeze(6), all there is", row.squeeze(6), 48);
        widths(row, 1, 1, 1, 1, 1, 1);
        s.is("squeeze(1) of a pile", Due.mapOf("m;p19;p19;p19;p19;p19;p19,012345,543210").squeeze(1), 48);
    }

    private void whoIsSqueezed() {
        s.of(8, "of the CRITICAL AREAS with a WIDTH above 1");
        // 2 is the widest one, but 0 and 1 side by side are broader.
        AreaOrders x = Due.mapOf("m;p12;p13;p14,012,201");
        s.is("ROUNDS", x.squeeze(4), 1);
        widths(x, 2, 2, 4);
        // Both CRITICAL, but 0 has a WIDTH of 1 alone.
        AreaOrders y = Due.mapOf("m;p11;p12,01,01");
        s.is("ROUNDS", y.squeeze(2), 1);
        widths(y, 1, 1);
        s.of(8, "(of all AREAS with a WIDTH above 1, if there is no such CRITICAL one)");
        AreaOrders pile = Due.mapOf("m;p14;p15;p15,012,210");
        s.is("CRITICAL ones", pile.whole(4), 0);
        s.is("ROUNDS", pile.squeeze(4), 2);
        widths(pile, 4, 4, 4);
        // 0 is CRITICAL with a WIDTH of 1; 1 and 2 behind it are as wide, 3 below all is in no one's way.
        AreaOrders z = Due.mapOf("m;p11;p13;p13;p12,0123,3021");
        s.is("CRITICAL ones", z.whole(4), 1);
        s.is("ROUNDS", z.squeeze(3), 2);
        widths(z, 1, 2, 2, 2);
        s.of(8, "the widest one (of several the least number) gets a WIDTH 1 less");
        AreaOrders row = Due.mapOf("m;p12;p14;p14,201,201");
        row.squeeze(9);
        widths(row, 2, 3, 4);
        row.squeeze(8);
        widths(row, 2, 3, 3);
        row.squeeze(7);
        widths(row, 2, 2, 3);
    }

    private void notToBe() {
        s.of(8, "if there is no such one at all, it can't be (and all stays as it was)");
        AreaOrders x = Due.mapOf("m;p95;p94;p19,012,012");
        String was = Seen.of(x);
        s.is("squeeze(2) of three", x.squeeze(2), NONE);
        s.same("all", Seen.of(x), was);
        s.is("squeeze(5) of six", Due.mapOf(ROW).squeeze(5), NONE);
        s.is("squeeze(1) of WIDTHS of 1", Due.mapOf("m;p11;p11,01,01").squeeze(1), NONE);
        s.of(8, "NONE: it can't be");
        s.is("squeeze(1) of three", x.squeeze(1), NONE);
        s.same("all", Seen.of(x), was);
        s.is("squeeze(3) of three can", x.squeeze(3), 15);
    }

    private void squeezingRefused() {
        AreaOrders x = Due.mapOf(ROW);
        AreaOrders bare = new AreaOrders();
        s.of(8, "OUTSIDE");
        for (int v : new int[] {MIN, -1, 0, 61, MAX}) {
            s.is("squeeze(" + v + ")", x.squeeze(v), OUTSIDE);
            s.is("squeeze(" + v + ") without a MAP", bare.squeeze(v), OUTSIDE);
        }
        widths(x, 9, 9, 9, 9, 9, 9);
        s.of(8, "STATE: there is no MAP");
        s.is("squeeze(1)", bare.squeeze(1), STATE);
        s.is("squeeze(60)", bare.squeeze(60), STATE);
    }

    // Promise 9

    private int day(AreaOrders x, int what, int... cells) {
        Due.fill(x, 0, 2, cells);
        return x.day(0, 2, 0, cells.length / 3, what);
    }

    private void acts() {
        s.of(9, "A DAY told: a row of threes, one behind another, from how all is now (nothing is changed)");
        AreaOrders x = Due.mapOf(FOUR);
        x.width(1, 4);
        s.is("from how all is now", day(x, 0), 7);
        String was = Seen.withoutSheets(x);
        s.is("the later one holds", day(x, 0, 0, 1, 9, 0, 1, 1), 5);
        s.is("from how all is now again", day(x, 0, 0, 0, 1), 6);
        s.is("turned and turned back", day(x, 0, 2, 1, 1, 2, 1, 1), 7);
        s.is("a wrong one behind others", day(x, 1, 1, 0, 9, 2, 0, 2, 0, 9, 1), 2);
        s.same("all", Seen.withoutSheets(x), was);
        s.of(9, "0, an AREA, a WIDTH (1 .. 9): it has that");
        s.is("WIDTH 1 of the last one", day(x, 0, 0, 3, 1), 7);
        s.is("WIDTH 9 of the last one", day(x, 0, 0, 3, 9), 15);
        s.is("DEPTH by WIDTH 9 of 2", day(x, 2, 0, 2, 9), 4);
        s.of(9, "1, an AREA, a PLOT (1 .. 9): it has that");
        s.is("PLOT 1 of 2", day(x, 2, 1, 2, 1), 3);
        s.is("PLOT 9 of 2", day(x, 2, 1, 2, 9), 11);
        s.is("BREADTH stays", day(x, 0, 1, 2, 9), 7);
        s.of(9, "2, an ORDER (0, 1), k (0 .. 4): the AREAS in places k and k and 1 of it change places");
        AreaOrders six = Due.mapOf("m;p11;p12;p13;p14;p15;p16,012345,012345");
        s.is("k 0 of ORDER 0", day(six, 0, 2, 0, 0), 20);
        s.is("k 4 of ORDER 0", day(six, 0, 2, 0, 4), 16);
        s.is("k 0 of ORDER 1", day(six, 0, 2, 1, 0), 20);
        s.is("k 4 of ORDER 1", day(six, 0, 2, 1, 4), 16);
        s.is("both ORDERS", day(six, 0, 2, 0, 4, 2, 1, 4), 21);
        s.is("X of 5 then", day(six, 15, 2, 0, 4, 2, 1, 4), 10);
    }

    private void wrong(AreaOrders x, int want, int... cells) {
        StringBuilder row = new StringBuilder("FIRST WRONG of");
        for (int cell : cells) {
            row.append(' ').append(cell);
        }
        s.is(row.toString(), day(x, 1, cells), want);
    }

    private void actsThatCanNotBe() {
        AreaOrders x = Due.mapOf(FOUR);
        AreaOrders six = Due.mapOf(ROW);
        AreaOrders one = Due.mapOf("m;p11,0,0");
        s.of(9, "FIRST WRONG: the first act that can't be");
        wrong(x, NONE);
        wrong(x, NONE, 0, 3, 9, 1, 3, 9, 2, 1, 2);
        wrong(x, 0, 0, 4, 9, 0, 4, 9);
        wrong(x, 2, 0, 3, 9, 1, 3, 9, 2, 1, 3, 0, 4, 9);
        s.of(9, "(there is no such AREA, ORDER");
        for (int a : new int[] {MIN, -1, 4, MAX}) {
            wrong(x, 0, 0, a, 1);
            wrong(x, 0, 1, a, 1);
        }
        wrong(x, NONE, 0, 3, 1, 1, 0, 1);
        wrong(six, NONE, 0, 5, 1, 1, 5, 1);
        wrong(six, 0, 0, 6, 1);
        for (int order : new int[] {MIN, -1, 2, MAX}) {
            wrong(x, 0, 2, order, 0);
        }
        s.of(9, ", place behind k; ");
        for (int k : new int[] {MIN, -1, 5, 6, MAX}) {
            wrong(six, 0, 2, 0, k);
            wrong(six, 0, 2, 1, k);
        }
        wrong(six, NONE, 2, 0, 0, 2, 0, 4, 2, 1, 0, 2, 1, 4);
        wrong(x, 1, 2, 1, 2, 2, 1, 3);
        wrong(one, 0, 2, 0, 0);
        s.of(9, "another number)");
        for (int v : new int[] {MIN, -1, 0, 10, MAX}) {
            wrong(x, 0, 0, 0, v);
            wrong(x, 0, 1, 0, v);
        }
        wrong(x, NONE, 0, 0, 1, 0, 0, 9, 1, 0, 1, 1, 0, 9);
    }

    private void answersOfDay() {
        AreaOrders x = Due.mapOf(FOUR);
        s.of(9, "BREADTH then (what 0), its FIRST WRONG (1; NONE), DEPTH then (2), WASTE then (3), "
            + "how many twos TOUCH then (4)");
        int[] want = {6, NONE, 8, 24, 3};
        int[] wantThen = {11, NONE, 6, 43, 3};
        for (int what = 0; what <= 4; what++) {
            s.is("no act, " + what, day(x, what), want[what]);
            // 0 becomes 7 broad and 1 high, 2 becomes 1 of 2 high.
            s.is("two acts, " + what, day(x, what, 0, 0, 7, 1, 2, 3), wantThen[what]);
        }
        s.of(9, "X of AREA a then (10 and a; NONE: there is no such AREA)");
        int[] begins = {0, 7, 7, 10, NONE, NONE};
        for (int a = 0; a <= 5; a++) {
            s.is("X of " + a, day(x, 10 + a, 0, 0, 7), begins[a]);
        }
        s.is("X of 5 of six", day(Due.mapOf(ROW), 15), 45);
        s.of(9, "of one with a FIRST WRONG: -100 less that (but what 1)");
        for (int what : new int[] {0, 2, 3, 4, 10, 13, 14, 15}) {
            s.is("act 0, " + what, day(x, what, 0, 0, 10), -100);
            s.is("act 1, " + what, day(x, what, 0, 0, 9, 1, 4, 1), -101);
        }
        s.is("act 0, 1", day(x, 1, 0, 0, 10), 0);
        int[] twenty = new int[60];
        for (int act = 0; act < 20; act++) {
            twenty[3 * act + 2] = act < 19 ? 1 : 10;
        }
        s.is("the twentieth act", day(x, 1, twenty), 19);
        s.is("the twentieth act", day(x, 0, twenty), -119);
    }

    private void cellsOfDay() {
        s.of(9, "A DAY of n threes, that are cells of a SHEET from i on (3 n)");
        for (int lane = 0; lane <= 2; lane++) {
            AreaOrders x = Due.mapOf(FOUR);
            Due.fill(x, 2, lane, 9, 0, 3, 5, 0, 3, 9, 9);
            s.is("one from 1 on", x.day(2, lane, 1, 1, 0), 10);
            s.is("two from 1 on", x.day(2, lane, 1, 2, 0), 14);
            s.is("one from 4 on", x.day(2, lane, 4, 1, 0), 14);
            s.is("none from 1 on", x.day(2, lane, 1, 0, 0), 6);
            s.is("none at the end", x.day(2, lane, 8, 0, 0), 6);
            int[] sixty = new int[60];
            for (int act = 0; act < 20; act++) {
                sixty[3 * act + 1] = 3;
                sixty[3 * act + 2] = 1 + act % 9;
            }
            Due.fill(x, 2, lane, sixty);
            s.is("twenty", x.day(2, lane, 0, 20, 0), 7);
            s.is("nineteen", x.day(2, lane, 0, 19, 0), 6);
        }
    }

    private void dayRefused() {
        AreaOrders x = Due.mapOf(FOUR);
        s.of(9, "UNKNOWN: SHEET");
        for (int k : new int[] {MIN, -1, 4, MAX}) {
            s.is("day(" + k + ", 0, 0, 0, 0)", x.day(k, 0, 0, 0, 0), UNKNOWN);
            s.is("day(" + k + ", 3, 0, 21, 5)", x.day(k, 3, 0, 21, 5), UNKNOWN);
        }
        s.of(9, "OUTSIDE: lane, n (0 .. 20), what (0 .. 4, 10 .. 15)");
        for (int lane : new int[] {MIN, -1, 3, MAX}) {
            s.is("day(0, " + lane + ", 0, 0, 0)", x.day(0, lane, 0, 0, 0), OUTSIDE);
        }
        for (int n : new int[] {MIN, -1, 21, MAX, 1 << 30}) {
            s.is("day(0, 0, 0, " + n + ", 0)", x.day(0, 0, 0, n, 0), OUTSIDE);
        }
        s.is("n 20 isn't", x.day(0, 0, 0, 20, 0), -11);
        for (int what : new int[] {MIN, -1, 5, 9, 16, MAX}) {
            s.is("day(0, 0, 0, 0, " + what + ")", x.day(0, 0, 0, 0, what), OUTSIDE);
        }
        for (int what : new int[] {0, 4, 10, 15}) {
            s.is("what " + what + " isn't", x.day(0, 0, 0, 0, what), -11);
        }
    }

    private void faultsOfDay() {
        AreaOrders x = Due.mapOf(FOUR);
        s.of(9, "FAULTS CAST, NULL, INDEX");
        s.is("nothing", x.day(0, 1, -1, 1, 0), -11);
        Due.fill(x, 0, 1, 0, 3, 5, 9);
        s.is("shorts as bytes", x.day(0, 0, -1, 1, 0), -12);
        s.is("shorts as ints", x.day(0, 2, 0, 0, 0), -12);
        s.is("one from 1 on", x.day(0, 1, 1, 1, 1), OUTSIDE);
        s.is("one from 2 on", x.day(0, 1, 2, 1, 1), -13);
        s.is("two", x.day(0, 1, 0, 2, 0), -13);
        s.is("i -1", x.day(0, 1, -1, 1, 0), -13);
        s.is("i MAX", x.day(0, 1, MAX, 1, 0), -13);
        s.is("i MIN", x.day(0, 1, MIN, 20, 0), -13);
        s.is("i MAX - 59", x.day(0, 1, MAX - 59, 20, 0), -13);
        s.of(9, "STATE: there is no MAP");
        AreaOrders bare = new AreaOrders();
        Due.fill(bare, 0, 1, 3, 3, 5);
        s.is("no act", bare.day(0, 1, 0, 0, 1), STATE);
        s.is("ahead of the sort", bare.day(0, 1, 0, 1, 1), STATE);
    }

    private void sorts() {
        AreaOrders x = Due.mapOf(FOUR);
        s.of(9, "OUTSIDE: a sort is not 0 .. 2");
        for (int sort : new int[] {MIN, -1, 3, MAX}) {
            s.is("sort " + sort, day(x, 1, sort, 0, 1), OUTSIDE);
            s.is("the last sort " + sort, day(x, 0, 0, 0, 1, sort, 0, 1), OUTSIDE);
            s.is("behind a wrong act, sort " + sort, day(x, 1, 0, 9, 1, sort, 0, 1), OUTSIDE);
        }
        s.is("sort 0", day(x, 1, 0, 0, 1), NONE);
        s.is("sort 1", day(x, 1, 1, 0, 1), NONE);
        s.is("sort 2", day(x, 1, 2, 0, 1), NONE);
        Due.fill(x, 0, 2, 0, 0, 1, 3);
        s.is("the cell behind the acts is no sort", x.day(0, 2, 0, 1, 1), NONE);
    }
}
