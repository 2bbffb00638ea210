/** Promises 3 to 6: an AREA, its WIDTH, its PLOT, ORDERS that are TURNED. */
public final class AreaTest {
    private static final Due due = new Due();

    public static void main(String[] args) {
        heights();
        leftAndAbove();
        touching();
        critical();
        widthsAndPlots();
        turns();
        refusals();
        due.end();
    }

    private static void all(AreaOrders x, int what, int... want) {
        for (int a = 0; a < want.length; a++) {
            due.is("ofArea(" + a + ", " + what + ")", x.ofArea(a, what), want[a]);
        }
    }

    private static void heights() {
        AreaOrders x = Due.mapOf("m;p73;b73;d73;p99;b99;d91,012345,012345");
        all(x, 0, 0, 1, 2, 0, 1, 2);
        all(x, 1, 7, 7, 7, 9, 9, 9);
        all(x, 2, 3, 3, 3, 9, 9, 1);
        all(x, 3, 3, 3, 5, 1, 2, 18);
    }

    private static void leftAndAbove() {
        // 0 is left of 1, 2 and 3; 1 is above 2; 3 is right of all.
        AreaOrders x = Due.mapOf("m;p42;p63;p52;p11,0123,0213");
        all(x, 3, 2, 2, 3, 1);
        all(x, 4, 0, 2, 2, 5);
        all(x, 5, 0, 0, 2, 0);
        all(x, 6, 0, 1, 1, 7);
        all(x, 7, 0, 0, 2, 0);
        all(x, 11, 0, 1, 2, 3);
        all(x, 12, 0, 2, 1, 3);
        AreaOrders y = Due.mapOf("m;p11;p11;p11,210,012");
        all(y, 7, 6, 4, 0);
        all(y, 5, 2, 1, 0);
        all(y, 6, 0, 0, 0);
        AreaOrders z = Due.mapOf("m;p11;p11;p11;p11;p11;p11,012345,543210");
        all(z, 7, 0, 1, 3, 7, 15, 31);
        all(z, 8, 2, 5, 10, 20, 40, 16);
    }

    private static void touching() {
        // 0 covers x 0..2, y 0..2; 1 x 2..5, y 0..2; 2 x 2..4, y 2..5: a corner of 0 is no edge.
        AreaOrders x = Due.mapOf("m;p42;p63;p52;p11,0123,0213");
        all(x, 8, 2, 13, 2, 2);
        AreaOrders y = Due.mapOf("m;p11;p11,01,10");
        all(y, 8, 2, 1);
        AreaOrders alone = Due.mapOf("m;p11,0,0");
        all(alone, 8, 0);
    }

    private static void critical() {
        // 0 and 1 are in a chain of 5, 2 is as wide alone: none makes the map narrower.
        AreaOrders x = Due.mapOf("m;p12;p13;p15,012,201");
        all(x, 9, 0, 0, 0);
        due.is("narrower", x.width(2, 4), 5);
        all(x, 9, 1, 1, 0);
        due.is("as wide", x.width(2, 9), 4);
        all(x, 9, 0, 0, 1);
        AreaOrders one = Due.mapOf("m;p11,0,0");
        all(one, 9, 1);
        all(one, 2, 1);
        all(one, 3, 1);
    }

    private static void widthsAndPlots() {
        AreaOrders x = Due.mapOf("m;p95;b42,01,01");
        due.is("width was", x.width(0, 9), 5);
        all(x, 2, 9, 2);
        all(x, 3, 1, 3);
        all(x, 4, 0, 9);
        due.is("width 1", x.width(0, 1), 9);
        all(x, 3, 9, 3);
        due.is("plot was", x.plot(0, 1), 9);
        due.is("plot 9", x.plot(1, 9), 4);
        all(x, 1, 1, 9);
        all(x, 3, 1, 5);
        due.is("width 0", x.width(0, 0), -2);
        due.is("width 10", x.width(0, 10), -2);
        due.is("plot 0", x.plot(0, 0), -2);
        due.is("plot 10", x.plot(0, 10), -2);
        due.is("width of nobody", x.width(2, 0), -1);
        due.is("plot of nobody", x.plot(-1, 0), -1);
        all(x, 1, 1, 9);
        all(x, 2, 1, 2);
    }

    private static void turns() {
        AreaOrders x = Due.mapOf("m;p11;p22;p33,012,012");
        due.is("turn", x.turn(1, 0), 1);
        all(x, 12, 1, 0, 2);
        all(x, 11, 0, 1, 2);
        all(x, 5, 0, 1, 0);
        all(x, 4, 0, 0, 2);
        due.is("turn", x.turn(0, 1), 2);
        all(x, 11, 0, 2, 1);
        due.is("place 2 has none behind it", x.turn(0, 2), -1);
        due.is("place -1", x.turn(0, -1), -1);
        due.is("place far", x.turn(1, Integer.MAX_VALUE), -1);
        due.is("order 2, ahead of the place", x.turn(2, 9), -2);
        due.is("order -1", x.turn(-1, 0), -2);
        all(x, 11, 0, 2, 1);
    }

    private static void refusals() {
        AreaOrders x = Due.mapOf("m;p11;p22;p33,012,012");
        due.is("what 13", x.ofArea(0, 13), -2);
        due.is("what -1", x.ofArea(0, -1), -2);
        due.is("nobody, ahead of what", x.ofArea(3, 13), -1);
        due.is("nobody", x.ofArea(-1, 0), -1);
        due.is("no map", new AreaOrders().turn(0, 0), -1);
        due.is("no map", new AreaOrders().turn(3, 0), -2);
    }
}
