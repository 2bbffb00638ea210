/** Promises 10, 11 and 16: LEAST, WISHES, ODDS. */
public final class OrdersTest {
    private static final Due due = new Due();

    public static void main(String[] args) {
        least();
        odds();
        wishes();
        wishesRefused();
        due.end();
    }

    private static void leastIs(String text, int... want) {
        AreaOrders x = Due.mapOf(text);
        int depth = x.whole(1);
        for (int k = -1; k < want.length - 1; k++) {
            due.is(text + " least " + k, x.least(k), want[k + 1]);
        }
        for (int k = want.length - 1; k <= 5; k++) {
            due.is(text + " least " + k, x.least(k), -9);
        }
        due.is("all stays", x.whole(1), depth);
    }

    private static void least() {
        leastIs("m;p11,0,0", 1, 0);
        // By 01 they are side by side: 4 times 2; by 10 one above the other: 2 times 4. The first one is told.
        leastIs("m;p42;p42,01,10", 8, 0, 1);
        leastIs("m;p42;p42,10,10", 8, 0, 1);
        // 1 times 9 above 9 times 1: by 01 10 times 9, by 10 9 times 10.
        leastIs("m;p91;p99,01,01", 90, 0, 1);
        // Two low ones below a wide one: 4 times 2.
        leastIs("m;p44;p22;p22,012,012", 8, 0, 1, 2);
        leastIs("m;p44;p42;p42,012,012", 12, 1, 2, 0);
        leastIs("m;p11;p11;p11;p11;p11;p11,012345,543210", 6, 0, 1, 2, 3, 4, 5);
        AreaOrders x = Due.mapOf("m;p11,0,0");
        due.is("least -2", x.least(-2), -2);
        due.is("least 6", x.least(6), -2);
        due.is("no map", new AreaOrders().least(0), -3);
        due.is("no map", new AreaOrders().least(6), -2);
    }

    private static void oddsAre(AreaOrders x, int v, int upper, int lower) {
        due.is("upper of " + v, x.odds(v, 0), upper);
        due.is("lower of " + v, x.odds(v, 1), lower);
    }

    private static void odds() {
        // 012: 8 times 2; 021: 6 times 4; 102: 6 times 3; 120: 4 times 3; 201: 6 times 4; 210: 4 times 5.
        AreaOrders x = Due.mapOf("m;p44;p42;p42,012,012");
        oddsAre(x, 0, 0, 1);
        oddsAre(x, 11, 0, 1);
        oddsAre(x, 12, 1, 6);
        oddsAre(x, 16, 1, 3);
        oddsAre(x, 18, 1, 2);
        oddsAre(x, 20, 2, 3);
        oddsAre(x, 23, 2, 3);
        oddsAre(x, 24, 1, 1);
        oddsAre(x, 9999, 1, 1);
        // Five squares fill 5 in a row or in a column: two ORDERS of 120.
        AreaOrders five = Due.mapOf("m;p11;p11;p11;p11;p11,43210,01234");
        oddsAre(five, 4, 0, 1);
        oddsAre(five, 5, 1, 60);
        AreaOrders six = Due.mapOf("m;p11;p11;p11;p11;p11;p11,012345,012345");
        oddsAre(six, 5, 0, 1);
        oddsAre(six, 9999, 1, 1);
        due.is("all stays", x.whole(0), 8);
        due.is("order stays", x.ofArea(0, 12), 0);
        AreaOrders two = Due.mapOf("m;p44;p22,01,01");
        // 6 times 1, or 4 times 2.
        oddsAre(two, 5, 0, 1);
        oddsAre(two, 6, 1, 2);
        oddsAre(two, 7, 1, 2);
        oddsAre(two, 8, 1, 1);
        oddsAre(Due.mapOf("m;p11,0,0"), 1, 1, 1);
        // Three squares: 3 times 1 or 1 times 3 (one order each), else 2 times 2.
        AreaOrders three = Due.mapOf("m;p11;p11;p11,201,012");
        oddsAre(three, 3, 1, 3);
        oddsAre(three, 4, 1, 1);
        // Readings are none of its matter.
        three.reading(0, 77);
        oddsAre(three, 3, 1, 3);
        due.is("v -1", x.odds(-1, 0), AreaOrders.LOST);
        due.is("v 10000", x.odds(10000, 0), AreaOrders.LOST);
        due.is("which 2", x.odds(0, 2), AreaOrders.LOST);
        due.is("which -1", x.odds(0, -1), AreaOrders.LOST);
        due.is("no map", new AreaOrders().odds(0, 0), AreaOrders.LOST);
    }

    private static int wished(AreaOrders x, int... cells) {
        Due.fill(x, 0, 2, cells);
        return x.wishes(0, 2, 0, cells.length / 2);
    }

    private static void wishes() {
        AreaOrders x = Due.mapOf("m;p42;p63;p52;p11,0123,0213");
        due.is("none", wished(x), 0);
        due.is("met", wished(x, 0, 1), 1);
        due.is("the other way about", wished(x, 1, 0), 1);
        due.is("a corner", wished(x, 0, 2), 0);
        due.is("itself", wished(x, 1, 1), 0);
        due.is("each counts", wished(x, 0, 1, 0, 1, 1, 2, 3, 2, 3, 1), 4);
        due.is("by a turn", x.turn(1, 0), 2);
        due.is("by a turn", wished(x, 0, 2), 1);
        Due.fill(x, 0, 1, 9, 0, 1, 9);
        due.is("shorts from 1 on", x.wishes(0, 1, 1, 1), 1);
        int[] forty = new int[40];
        for (int k = 0; k < 20; k++) {
            forty[2 * k + 1] = 2;
        }
        due.is("twenty", wished(x, forty), 20);
    }

    private static void wishesRefused() {
        AreaOrders x = new AreaOrders();
        due.is("nothing", x.wishes(0, 0, 0, 0), -11);
        due.is("nothing", x.fault(), 1);
        due.is("state", wished(x, 0, 9), -3);
        due.is("refused", x.fault(), 0);
        due.is("index, ahead of state", x.wishes(0, 2, 1, 1), -13);
        due.is("index -1", x.wishes(0, 2, -1, 1), -13);
        due.is("index of none", x.wishes(0, 2, 3, 0), -13);
        due.is("index", x.fault(), 3);
        due.is("cast, ahead of index", x.wishes(0, 1, 7, 1), -12);
        due.is("cast", x.fault(), 2);
        due.is("sheet", x.wishes(4, 3, 0, 0), -1);
        due.is("sheet", x.wishes(-1, 0, 0, 0), -1);
        due.is("lane", x.wishes(1, 3, 0, 0), -2);
        due.is("lane", x.wishes(1, -1, 0, 0), -2);
        due.is("n 21", x.wishes(1, 0, 0, 21), -2);
        due.is("n -1", x.wishes(1, 0, 0, -1), -2);
        Due.read(x, "m;p11;p11,01,01");
        due.is("no area", wished(x, 0, 1, 0, 2), -1);
        due.is("no area", wished(x, -1, 1), -1);
        due.is("refused", x.fault(), 0);
        due.is("both", wished(x, 0, 1), 1);
    }
}
