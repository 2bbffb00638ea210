/** Promises 12 to 15: READINGS, KINDS, WIDTHS. */
public final class ReadingTest {
    private static final Due due = new Due();

    public static void main(String[] args) {
        numbers();
        kindsAndWidths();
        changes();
        refusals();
        due.end();
    }

    private static void numbers() {
        AreaOrders x = Due.mapOf("m;p11;p11,01,10");
        for (int k = 0; k < 8; k++) {
            due.is("reading", x.reading(0, 0), k);
            due.is("readings", x.many(3), k + 1);
        }
        due.is("full", x.reading(0, 0), -4);
        due.is("outside, ahead of full", x.reading(0, 121), -2);
        due.is("readings", x.many(3), 8);
        due.is("none back", x.back(0), 8);
        due.is("back", x.back(3), 5);
        due.is("too many back", x.back(6), -2);
        due.is("back -1", x.back(-1), -2);
        due.is("the number of one that was taken back", x.reading(1, 120), 5);
        due.is("all back", x.back(6), 0);
        due.is("one more back", x.back(1), -2);
        due.is("from 0 on again", x.reading(0, 0), 0);
        due.is("a refused one takes no number", x.reading(0, 121), -2);
        due.is("the next one", x.reading(0, 0), 1);
        Due.read(x, "m;p11;p11,01,10");
        due.is("from 0 on by a new map", x.reading(1, 1), 0);
    }

    private static void kindsAndWidths() {
        // 0 is above 1: y of 1 is the height of 0, that is 4, 5, 8 by kind.
        AreaOrders x = Due.mapOf("m;p41;p11,01,10");
        due.is("no reading", x.kinds(0), 7);
        due.is("no reading", x.widths(0), 1022);
        x.reading(1, 4);
        due.is("plain", x.kinds(0), 1);
        due.is("width 1", x.widths(0), 2);
        due.is("kinds of the one below", x.kinds(1), 7);
        due.is("widths of the one below", x.widths(1), 1022);
        x.back(1);
        x.reading(1, 5);
        due.is("broad", x.kinds(0), 2);
        due.is("no width", x.widths(0), 0);
        due.is("none of the one below", x.kinds(1), 0);
        due.is("none of the one below", x.widths(1), 0);
        x.back(1);
        x.reading(1, 8);
        due.is("double", x.kinds(0), 4);
        x.back(1);
        x.reading(1, 1);
        due.is("widths 4 to 9", x.widths(0), 1008);
        x.reading(1, 2);
        due.is("not both", x.widths(0), 0);
        x.back(1);
        x.reading(0, 0);
        due.is("both", x.widths(0), 1008);
        x.reading(0, 1);
        due.is("0 is on top", x.widths(0), 0);
        x.back(1);
        due.is("what was taken back counts no more", x.widths(0), 1008);
        for (int k = 0; k < 6; k++) {
            x.reading(0, 0);
        }
        due.is("eight", x.widths(0), 1008);
        x.back(1);
        x.reading(0, 1);
        due.is("the eighth counts", x.widths(0), 0);
    }

    private static void changes() {
        AreaOrders x = Due.mapOf("m;d49;p11,01,10");
        x.reading(1, 1);
        due.is("all kinds", x.kinds(0), 7);
        due.is("widths 8 and 9", x.widths(0), 768);
        due.is("kind stays", x.ofArea(0, 0), 2);
        due.is("width stays", x.ofArea(0, 2), 9);
        x.width(0, 4);
        due.is("by the width that is now", x.kinds(0), 1);
        x.plot(0, 3);
        due.is("by the plot that is now", x.kinds(0), 3);
        x.turn(1, 0);
        due.is("by the order that is now", x.kinds(0), 0);
        due.is("readings stay", x.many(3), 1);
    }

    private static void refusals() {
        AreaOrders x = new AreaOrders();
        due.is("no map", x.reading(0, 121), -1);
        due.is("no map", x.kinds(0), -1);
        due.is("no map", x.widths(0), -1);
        due.is("no map", x.back(0), 0);
        Due.read(x, "m;p11;p11,01,10");
        due.is("nobody", x.reading(2, 121), -1);
        due.is("nobody", x.reading(-1, 0), -1);
        due.is("v -1", x.reading(0, -1), -2);
        due.is("v 121", x.reading(0, 121), -2);
        due.is("nobody", x.kinds(2), -1);
        due.is("nobody", x.widths(-1), -1);
        due.is("nothing was read", x.many(3), 0);
    }
}
