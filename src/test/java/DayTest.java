/** Promise 9: a DAY. */
public final class DayTest {
    private static final Due due = new Due();

    public static void main(String[] args) {
        acts();
        wrongOnes();
        refusals();
        faults();
        due.end();
    }

    private static int day(AreaOrders x, int what, int... cells) {
        Due.fill(x, 0, 2, cells);
        return x.day(0, 2, 0, cells.length / 3, what);
    }

    private static void acts() {
        AreaOrders x = Due.mapOf("m;p42;p63;p52;p11,0123,0213");
        due.is("no act", day(x, 0), 6);
        due.is("width", day(x, 0, 0, 1, 9), 12);
        due.is("plot", day(x, 2, 1, 2, 9), 7);
        due.is("turn", day(x, 0, 2, 1, 1), 8);
        due.is("turned back", day(x, 0, 2, 1, 1, 2, 1, 1), 6);
        due.is("one behind another", day(x, 0, 0, 1, 9, 0, 1, 1), 5);
        due.is("depth", day(x, 2, 0, 0, 1, 0, 2, 5), 4);
        due.is("waste", day(x, 3, 0, 1, 9), 48 - 4 - 9 - 6 - 1);
        due.is("twos", day(x, 4, 1, 0, 5), 4);
        due.is("x of 0", day(x, 10, 0, 0, 1), 0);
        due.is("x of 3", day(x, 13, 0, 0, 1), 4);
        due.is("x of 4", day(x, 14, 0, 0, 1), -9);
        due.is("all stays", x.whole(0), 6);
        due.is("width stays", x.ofArea(1, 2), 3);
        due.is("plot stays", x.ofArea(2, 1), 5);
        due.is("order stays", x.ofArea(1, 12), 2);
        int[] twenty = new int[60];
        for (int k = 0; k < 20; k++) {
            twenty[3 * k + 1] = 1;
            twenty[3 * k + 2] = 1 + k % 9;
        }
        due.is("twenty acts", day(x, 0, twenty), 5);
        Due.fill(x, 0, 0, 7, 0, 1, 9, 0, 3, 9);
        due.is("bytes from 1 on", x.day(0, 0, 1, 2, 0), 20);
        due.is("bytes from 4 on", x.day(0, 0, 4, 1, 0), 14);
    }

    private static void wrong(AreaOrders x, int want, int... cells) {
        due.is("first wrong", day(x, 1, cells), want);
        int least = want == -9 ? -99 : -100 - want;
        due.is("no such breadth", Math.min(-99, day(x, 0, cells)), least);
        due.is("no such x", Math.min(-99, day(x, 15, cells)), least);
    }

    private static void wrongOnes() {
        AreaOrders x = Due.mapOf("m;p42;p63;p52;p11,0123,0213");
        wrong(x, -9);
        wrong(x, -9, 0, 3, 9, 1, 3, 9, 2, 0, 2, 2, 1, 0);
        wrong(x, 0, 0, 4, 9);
        wrong(x, 0, 0, -1, 9);
        wrong(x, 0, 0, 0, 0);
        wrong(x, 0, 0, 0, 10);
        wrong(x, 0, 1, 4, 9);
        wrong(x, 0, 1, 0, 0);
        wrong(x, 0, 1, 0, 10);
        wrong(x, 0, 2, 2, 0);
        wrong(x, 0, 2, -1, 0);
        wrong(x, 0, 2, 0, 3);
        wrong(x, 0, 2, 0, -1);
        wrong(x, 0, 2, 0, Integer.MAX_VALUE);
        wrong(x, 1, 0, 0, 9, 1, 0, 10, 2, 2, 0);
        wrong(x, 2, 0, 0, 9, 1, 0, 9, 2, 0, 4);
        due.is("x of nobody on a wrong day", day(x, 14, 0, 4, 9), -100);
    }

    private static void refusals() {
        AreaOrders x = Due.mapOf("m;p42;p63;p52;p11,0123,0213");
        Due.fill(x, 0, 2, 0, 0, 1);
        due.is("sheet 4", x.day(4, 3, 0, 0, 0), -1);
        due.is("sheet -1", x.day(-1, 0, 0, 0, 0), -1);
        due.is("lane", x.day(1, 3, 0, 0, 0), -2);
        due.is("n 21", x.day(1, 2, 0, 21, 0), -2);
        due.is("n -1", x.day(1, 2, 0, -1, 0), -2);
        for (int what : new int[] {-1, 5, 9, 16}) {
            due.is("what " + what, x.day(1, 2, 0, 1, what), -2);
        }
        due.is("a sort behind a wrong act", day(x, 1, 0, 9, 9, 3, 0, 1), -2);
        due.is("sort -1", day(x, 0, -1, 0, 1), -2);
        due.is("no fault", x.fault(), 0);
        AreaOrders bare = new AreaOrders();
        due.is("state ahead of a sort", day(bare, 0, 3, 0, 1), -3);
        due.is("no fault", bare.fault(), 0);
    }

    private static void faults() {
        AreaOrders x = new AreaOrders();
        due.is("nothing", x.day(0, 0, 0, 0, 0), -11);
        due.is("nothing", x.fault(), 1);
        Due.fill(x, 0, 1, 0, 0, 1, 9);
        due.is("cast, ahead of index", x.day(0, 2, 9, 1, 0), -12);
        due.is("cast", x.fault(), 2);
        due.is("index, ahead of state", x.day(0, 1, 2, 1, 0), -13);
        due.is("index", x.fault(), 3);
        due.is("index -1", x.day(0, 1, -1, 1, 0), -13);
        due.is("index of none", x.day(0, 1, 5, 0, 0), -13);
        due.is("none at the end", x.day(0, 1, 4, 0, 0), -3);
        due.is("refused", x.fault(), 0);
        due.is("index far", x.day(0, 1, Integer.MAX_VALUE, 20, 0), -13);
    }
}
