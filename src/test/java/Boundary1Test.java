/** Boundary cases of promises 1 to 6, sentence by sentence: a new object, the MAP, an AREA, ORDERS that are TURNED. */
public final class Boundary1Test {
    private static final int UNKNOWN = -1, OUTSIDE = -2, STATE = -3;
    private static final int MIN = Integer.MIN_VALUE, MAX = Integer.MAX_VALUE;
    private static final String SIX = "m;p11;p11;p11;p11;p11;p11";

    private final Sentences s;

    private Boundary1Test(Sentences s) {
        this.s = s;
    }

    public static void main(String[] args) {
        Sentences s = new Sentences();
        all(s);
        s.end();
    }

    static void all(Sentences s) {
        Boundary1Test test = new Boundary1Test(s);
        test.newObject();
        test.lastCall();
        test.areasOfText();
        test.digitsOfText();
        test.ordersOfText();
        test.firstFaults();
        test.codes();
        test.anew();
        test.serials();
        test.cellsOfText();
        test.refusedTexts();
        test.faultsOfTexts();
        test.sizes();
        test.leftAndAbove();
        test.begins();
        test.touching();
        test.critical();
        test.whatOfArea();
        test.widths();
        test.plots();
        test.turns();
        test.turnsRefused();
    }

    private void text(String text, int want) {
        s.is("map by " + text, Due.read(new AreaOrders(), text), want);
    }

    private void each(AreaOrders x, int what, int... want) {
        for (int a = 0; a < want.length; a++) {
            s.is("ofArea(" + a + ", " + what + ")", x.ofArea(a, what), want[a]);
        }
    }

    // Promise 1

    private void newObject() {
        s.of(1, "No MAP (no AREAS)");
        AreaOrders x = new AreaOrders();
        s.is("AREAS", x.many(0), 0);
        s.is("AREA 0", x.ofArea(0, 0), UNKNOWN);
        for (int what = 0; what <= 4; what++) {
            s.is("whole(" + what + ")", x.whole(what), STATE);
        }
        s.of(1, "no AREA was read");
        s.is("whole(5)", x.whole(5), 0);
        Due.read(x, "m;p11,0,0");
        s.is("the first SERIAL", x.ofArea(0, 10), 1);
        s.of(1, "SHEETS have nothing");
        AreaOrders y = new AreaOrders();
        for (int k = 0; k <= 3; k++) {
            s.is("put(" + k + ", 0, 0)", y.put(k, 0, 0), -11);
            s.is("lose(" + k + ")", y.lose(k), 0);
        }
    }

    private void lastCall() {
        s.of(1, "An object is used for at most 512 calls after it has been made");
        // A row, nine codes, the MAP: eleven calls.
        AreaOrders x = Due.mapOf("m;p11,0,0");
        int was = 1;
        for (int call = 12; call < 512; call++) {
            int v = 1 + call % 9;
            s.is("call " + call, x.width(0, v), was);
            was = v;
        }
        s.is("call 512", x.ofArea(0, 2), was);
    }

    // Promise 2

    private void areasOfText() {
        s.of(2, "A MAP by a TEXT: m, then 1 to 6 AREAS");
        text("m,,", -101);
        text("m,0,0", -101);
        text("m;p11,0,0", 1);
        text(SIX + ",012345,012345", 6);
        text(SIX + ";p11,0123456,0123456", -125);
        AreaOrders again = Due.mapOf("m;p11,0,0");
        s.is("no AREAS behind a TEXT that has some", Due.read(again, "m,0,0"), -101);
        s.is("fewer AREAS than a TEXT ahead of it", Due.read(Due.mapOf("m;p11;p11,01,01"), "m;p11,1,1"), -106);
        s.of(2, "numbered from 0 on");
        AreaOrders x = Due.mapOf("m;p32;b54,01,01");
        each(x, 1, 3, 5);
        s.is("AREA 2", x.ofArea(2, 1), UNKNOWN);
        text("m;p11,1,1", -106);
        text(SIX + ",123456,123456", -131);
        s.of(2, "each: ; and a letter (its kind)");
        text("m,p11,0,0", -101);
        text("mp11,0,0", -101);
        text("m;11,0,0", -102);
        text("m;;p11,0,0", -102);
        text("m;pp11,0,0", -103);
        text("m;p11p11,01,01", -105);
    }

    private void digitsOfText() {
        s.of(2, "a digit 1 .. 9 (PLOT)");
        text("m;p/1,0,0", -103);
        text("m;p01,0,0", -103);
        text("m;p11,0,0", 1);
        text("m;p91,0,0", 1);
        text("m;p:1,0,0", -103);
        s.of(2, "a digit 1 .. 9 (WIDTH)");
        text("m;p1/,0,0", -104);
        text("m;p10,0,0", -104);
        text("m;p11,0,0", 1);
        text("m;p19,0,0", 1);
        text("m;p1:,0,0", -104);
        text("m;p111,0,0", -105);
    }

    private void ordersOfText() {
        s.of(2, "then a comma and ORDER 0, a comma and ORDER 1");
        text("m;p110,0", -105);
        text("m;p11;0,0", -106);
        text("m;p11,,0", -106);
        text("m;p11,00", -107);
        text("m;p11,0;0", -107);
        text("m;p11,0,,", -108);
        text("m;p11,0,0", 1);
        text("m;p11,0,0,", -109);
        AreaOrders x = Due.mapOf("m;p11;p11;p11,201,120");
        each(x, 11, 1, 2, 0);
        each(x, 12, 2, 0, 1);
        s.of(2, "each AREA once, as digits");
        text("m;p11;p11,01,10", 2);
        text("m;p11;p11,0,01", -111);
        text("m;p11;p11,010,01", -112);
        text("m;p11;p11,01,1", -114);
        text("m;p11;p11,01,101", -115);
        text("m;p11;p11,0/,10", -111);
        text("m;p11;p11,02,10", -111);
        text("m;p11;p11,0b,10", -111);
    }

    private void firstFaults() {
        s.of(2, "FIRST FAULT: the place (from 0 on) of the first code with which no TEXT goes on");
        text("x;p11,0,0", -100);
        text("mm;p11,0,0", -101);
        text("m;x00,9,9", -102);
        text("m;p11,0,0m", -109);
        text("m;p11,0,0 ", -109);
        s.of(2, "(the ; of a seventh AREA, ");
        text(SIX + ";", -125);
        text(SIX + ";x", -125);
        s.of(2, "an AREA that is in the ORDER already)");
        text("m;p11;p11,00,01", -111);
        text("m;p11;p11,01,11", -114);
        text(SIX + ",012340,012345", -131);
        text(SIX + ",012345,543215", -138);
        text(SIX + ",012345,543210", 6);
        s.of(2, "how many codes there are, if it just ends too soon");
        String text = SIX + ",012345,543210";
        for (int n = 0; n < text.length(); n++) {
            text(text.substring(0, n), -100 - n);
        }
        text("", -100);
    }

    private void codes() {
        s.of(2, "(Codes: m 109, p 112, b 98, d 100, ; 59, the comma 44, digits 48 .. 57.)");
        int[] codes = {109, 59, 112, 57, 49, 59, 98, 49, 57, 59, 100, 53, 52, 44, 48, 49, 50, 44, 50, 49, 48};
        AreaOrders x = new AreaOrders();
        Due.fill(x, 0, 2, codes);
        s.is("map", x.map(0, 2, 0, codes.length), 3);
        // Letters, ; and commas have no code beside them.
        for (int at : new int[] {0, 1, 2, 5, 6, 9, 10, 13, 17}) {
            for (int by = -1; by <= 1; by += 2) {
                x.put(0, at, codes[at] + by);
                s.is("code " + at + " by " + by, x.map(0, 2, 0, codes.length), -100 - at);
            }
            x.put(0, at, codes[at]);
        }
        for (int far : new int[] {256, -256, 65536, MIN}) {
            x.put(0, 14, 48 + far);
            s.is("a digit by " + far, x.map(0, 2, 0, codes.length), -114);
        }
        s.of(2, "Kinds: 0 PLAIN (p); 1 BROAD (b), a PLAIN one; 2 DOUBLE (d), a BROAD one");
        each(x, 0, 0, 1, 2);
        each(x, 1, 9, 1, 5);
        each(x, 2, 1, 9, 4);
        s.is("a BROAD one as a PLAIN one", x.as(1, 0), 1);
        s.is("a DOUBLE one as a BROAD one", x.as(2, 1), 1);
        text("m;P11,0,0", -102);
        text("m;q11,0,0", -102);
    }

    private void anew() {
        s.of(2, "A TEXT that is taken makes all anew: no READINGS");
        AreaOrders x = Due.mapOf("m;p41;p11,01,10");
        x.reading(1, 3);
        x.width(0, 9);
        x.plot(0, 9);
        x.turn(0, 0);
        Due.read(x, "m;p41;p11,01,1");
        s.is("READINGS, by a TEXT that isn't taken", x.many(3), 1);
        s.is("WIDTH, by a TEXT that isn't taken", x.ofArea(0, 2), 9);
        s.is("AREAS", Due.read(x, "m;p41;p11,01,10"), 2);
        s.is("READINGS", x.many(3), 0);
        s.is("KINDS without READINGS", x.kinds(0), 7);
        each(x, 1, 4, 1);
        each(x, 2, 1, 1);
        each(x, 11, 0, 1);
        s.is("fewer AREAS", Due.read(x, "m;b22,0,0"), 1);
        s.is("AREA 1", x.ofArea(1, 0), UNKNOWN);
        s.is("BREADTH", x.many(1), 2);
        s.is("DEPTH", x.many(2), 2);
    }

    private void serials() {
        s.of(2, "SERIAL of an AREA: AREAS are counted from 1 on, as they are read (with kind, PLOT, WIDTH)");
        AreaOrders x = new AreaOrders();
        Due.read(x, "m;");
        Due.read(x, "m;p");
        Due.read(x, "m;p1");
        Due.read(x, "m;p10");
        s.is("none with a WIDTH", x.whole(5), 0);
        Due.read(x, "m;p11;b22,01,10");
        each(x, 10, 1, 2);
        s.of(2, "through all TEXTS, those that are refused behind them, too");
        Due.read(x, "m;p11");
        s.is("it ends behind the AREA", x.whole(5), 3);
        Due.read(x, "m;p11;p11;p1x");
        s.is("a wrong code behind two", x.whole(5), 5);
        Due.read(x, SIX + ";p11");
        s.is("a seventh one isn't read", x.whole(5), 11);
        Due.read(x, "m;p11,0,1");
        s.is("a wrong ORDER behind one", x.whole(5), 12);
        each(x, 10, 1, 2);
        Due.read(x, "m;p11;p11;p11,012,012");
        each(x, 10, 13, 14, 15);
        each(Due.mapOf(SIX + ",012345,543210"), 10, 1, 2, 3, 4, 5, 6);
        x.sheet(0, 0, 0);
        x.map(0, 0, 0, 0);
        x.map(0, 1, 0, 0);
        x.map(3, 0, 0, -1);
        x.map(3, 0, 1, 21);
        x.map(3, 3, 0, 21);
        x.map(4, 0, 0, 21);
        s.is("nothing was read", x.whole(5), 15);
    }

    private void cellsOfText() {
        s.of(2, "A MAP by a TEXT of n cells of a SHEET from i on, taken as a row of a LANE: how many AREAS");
        String text = SIX + ",012345,543210";
        for (int lane = 0; lane <= 2; lane++) {
            AreaOrders x = new AreaOrders();
            Due.fill(x, lane, lane, Due.codes("x".repeat(21) + text));
            s.is("the last 39 of 60", x.map(lane, lane, 21, 39), 6);
            s.is("one less", x.map(lane, lane, 21, 38), -138);
            s.is("one ahead", x.map(lane, lane, 20, 40), -100);
            s.is("one late", x.map(lane, lane, 22, 38), -100);
            Due.fill(x, lane, lane, Due.codes(text + "x".repeat(21)));
            s.is("the first 39 of 60", x.map(lane, lane, 0, 39), 6);
            s.is("all 60", x.map(lane, lane, 0, 60), -139);
        }
        AreaOrders one = new AreaOrders();
        Due.fill(one, 1, 1, Due.codes("m;p11,0,0,"));
        s.is("the cell behind n isn't looked at", one.map(1, 1, 0, 9), 1);
        s.is("the cell behind it is", one.map(1, 1, 0, 10), -109);
        s.of(2, "-100 less the FIRST FAULT");
        s.is("no cells", one.map(1, 1, 0, 0), -100);
        s.is("no cells at the end", one.map(1, 1, 10, 0), -100);
        s.is("a FIRST FAULT is no FAULT", one.fault(), 0);
    }

    private void refusedTexts() {
        AreaOrders x = new AreaOrders();
        s.of(2, "UNKNOWN");
        for (int k : new int[] {MIN, -1, 4, MAX}) {
            s.is("map(" + k + ", 0, 0, 0)", x.map(k, 0, 0, 0), UNKNOWN);
            s.is("map(" + k + ", 3, 0, -1)", x.map(k, 3, 0, -1), UNKNOWN);
        }
        s.is("map(0, 0, 0, 0)", x.map(0, 0, 0, 0), -11);
        s.is("map(3, 0, 0, 0)", x.map(3, 0, 0, 0), -11);
        s.of(2, "OUTSIDE: lane");
        for (int lane : new int[] {MIN, -1, 3, MAX}) {
            s.is("map(0, " + lane + ", 0, 0)", x.map(0, lane, 0, 0), OUTSIDE);
            s.is("map(0, " + lane + ", -1, -1)", x.map(0, lane, -1, -1), OUTSIDE);
        }
    }

    private void faultsOfTexts() {
        AreaOrders x = new AreaOrders();
        s.of(2, "FAULTS CAST (nothing is no CAST), NULL");
        for (int lane = 0; lane <= 2; lane++) {
            s.is("nothing, by lane " + lane, x.map(0, lane, 0, 1), -11);
        }
        Due.fill(x, 0, 1, Due.codes("m;p11,0,0"));
        s.is("shorts as bytes", x.map(0, 0, 0, 9), -12);
        s.is("shorts as ints", x.map(0, 2, 0, 9), -12);
        s.is("CAST ahead of SIZE", x.map(0, 2, 0, -1), -12);
        s.is("NULL ahead of SIZE", x.map(1, 2, 0, -1), -11);
        s.of(2, "SIZE: n is below 0");
        s.is("n -1", x.map(0, 1, 0, -1), -14);
        s.is("n MIN", x.map(0, 1, 0, MIN), -14);
        s.is("ahead of INDEX", x.map(0, 1, -1, -1), -14);
        s.is("ahead of INDEX", x.map(0, 1, 10, -1), -14);
        s.is("n 0", x.map(0, 1, 0, 0), -100);
        s.of(2, "INDEX: not all cells are there; -100 less it");
        s.is("all", x.map(0, 1, 0, 9), 1);
        s.is("one more", x.map(0, 1, 0, 10), -13);
        s.is("i -1", x.map(0, 1, -1, 9), -13);
        s.is("i MAX", x.map(0, 1, MAX, 1), -13);
        s.is("i and n MAX", x.map(0, 1, MAX, MAX), -13);
        s.is("i 1, n MAX", x.map(0, 1, 1, MAX), -13);
        s.is("i MIN", x.map(0, 1, MIN, 9), -13);
        s.is("INDEX ahead of the FIRST FAULT", x.map(0, 1, 1, 9), -13);
        s.is("the FIRST FAULT", x.map(0, 1, 1, 8), -100);
    }

    // Promise 3

    private void sizes() {
        s.of(3, "SIZE: of a PLAIN AREA PLOT; of a BROAD one 1 more; of a DOUBLE one twice what a PLAIN one's is");
        each(Due.mapOf("m;p91;b91;d91;p11;b11;d11,012345,012345"), 3, 9, 10, 18, 1, 2, 2);
        s.of(3, "HEIGHT: SIZE by WIDTH, rounded up");
        each(Due.mapOf("m;p84;b84;b74;p19;p99;b99,012345,012345"), 3, 2, 3, 2, 1, 1, 2);
        each(Due.mapOf("m;d99;d98;p98;p54;p43;p32,012345,012345"), 3, 2, 3, 2, 2, 2, 2);
    }

    private void leftAndAbove() {
        s.of(3, "An AREA is LEFT of another one, if it is ahead of it in both ORDERS");
        each(Due.mapOf("m;p11;p11,01,01"), 6, 0, 1);
        each(Due.mapOf("m;p11;p11,10,10"), 6, 2, 0);
        each(Due.mapOf("m;p11;p11,01,10"), 6, 0, 0);
        each(Due.mapOf("m;p11;p11,10,01"), 6, 0, 0);
        each(Due.mapOf("m;p11,0,0"), 6, 0);
        each(Due.mapOf(SIX + ",012345,012345"), 6, 0, 1, 3, 7, 15, 31);
        AreaOrders six = Due.mapOf(SIX + ",305142,043251");
        each(six, 6, 0, 41, 25, 0, 1, 9);
        s.of(3, "it is ABOVE it, if it is ahead of it in ORDER 0 and behind it in ORDER 1");
        each(Due.mapOf("m;p11;p11,01,10"), 7, 0, 1);
        each(Due.mapOf("m;p11;p11,10,01"), 7, 2, 0);
        each(Due.mapOf("m;p11;p11,01,01"), 7, 0, 0);
        each(Due.mapOf("m;p11;p11,10,10"), 7, 0, 0);
        each(Due.mapOf("m;p11,0,0"), 7, 0);
        each(Due.mapOf(SIX + ",012345,543210"), 7, 0, 1, 3, 7, 15, 31);
        each(six, 7, 8, 0, 34, 0, 42, 0);
    }

    private void begins() {
        s.of(3, "X of an AREA: the greatest X and WIDTH together of those LEFT of it (0: there is none)");
        // 0 and 1 above one another, 2 behind both: by the wider one, whichever is read first.
        each(Due.mapOf("m;p19;p11;p11,012,102"), 4, 0, 0, 9);
        each(Due.mapOf("m;p11;p19;p11,012,102"), 4, 0, 0, 9);
        each(Due.mapOf("m;p19;p19;p19;p19;p19;p19,012345,012345"), 4, 0, 9, 18, 27, 36, 45);
        each(Due.mapOf("m;p19;p19,01,10"), 4, 0, 0);
        s.of(3, "Y likewise by HEIGHT of those ABOVE it");
        each(Due.mapOf("m;p91;p11;p11,012,201"), 5, 0, 0, 9);
        each(Due.mapOf("m;p11;p91;p11,012,201"), 5, 0, 0, 9);
        each(Due.mapOf("m;d91;d91;d91;d91;d91;d91,012345,543210"), 5, 0, 18, 36, 54, 72, 90);
        each(Due.mapOf("m;p91;p91,01,01"), 5, 0, 0);
    }

    private void touching() {
        s.of(3, "Two AREAS TOUCH, if where one ends in X the other one begins, and there is some Y "
            + "(a length of it) that both have");
        each(Due.mapOf("m;p11;p11,01,01"), 8, 2, 1);
        // 0 covers x 0 to 2, y 0 to 2; 1 covers x 2 to 5, y 0 to 2; 2 covers x 2 to 4, y 2 to 5: a corner.
        each(Due.mapOf("m;p42;p63;p52,012,021"), 8, 2, 5, 2);
        // With y 0 to 3 there is a length of 1.
        each(Due.mapOf("m;p62;p63;p52,012,021"), 8, 6, 5, 3);
        // 1 ends at 1, 2 begins at 9, as 0 is above 1: a gap.
        each(Due.mapOf("m;p19;p11;p21,012,102"), 8, 6, 1, 1);
        each(Due.mapOf("m;p11,0,0"), 8, 0);
        s.of(3, "or the same with X and Y the other way about");
        each(Due.mapOf("m;p11;p11,01,10"), 8, 2, 1);
        // 0 covers x 0 to 2, y 0 to 2; 1 covers x 0 to 2, y 2 to 5; 2 covers x 2 to 4, y 2 to 3: a corner.
        each(Due.mapOf("m;p42;p62;p22,012,120"), 8, 2, 5, 2);
        // With x 0 to 3 there is a length of 1.
        each(Due.mapOf("m;p63;p62;p22,012,120"), 8, 6, 5, 3);
        // 1 is low and left of 0, both above 2: a gap in y between 1 and 2.
        each(Due.mapOf("m;p91;p11;p22,102,210"), 8, 6, 1, 1);
    }

    private void critical() {
        s.of(3, "An AREA is CRITICAL, if BREADTH were less with its WIDTH alone 1 less (whatever that is: 0, too)");
        AreaOrders one = Due.mapOf("m;p91,0,0");
        each(one, 9, 1);
        each(one, 2, 1);
        each(one, 3, 9);
        each(Due.mapOf("m;p11;p11,01,01"), 9, 1, 1);
        s.of(3, "9 whether it is CRITICAL (1, 0)");
        // Each of two that are as wide stays in the other one's way.
        each(Due.mapOf("m;p15;p15,01,10"), 9, 0, 0);
        each(Due.mapOf("m;p15;p14,01,10"), 9, 1, 0);
        // A chain of 5 and one of 5, then one of 4.
        each(Due.mapOf("m;p12;p13;p15,012,201"), 9, 0, 0, 0);
        each(Due.mapOf("m;p12;p13;p14,012,201"), 9, 1, 1, 0);
    }

    private void whatOfArea() {
        s.of(3, "Of an AREA: 0 kind, 1 PLOT, 2 WIDTH, 3 HEIGHT, 4 X, 5 Y, 6 those that are LEFT of it, as a set, "
            + "7 those that are ABOVE it, as a set, 8 those that TOUCH it, as a set");
        int[][] want = {{0, 1, 2, 0}, {4, 6, 5, 1}, {2, 3, 2, 1}, {2, 3, 5, 1}, {0, 2, 2, 5}, {0, 0, 3, 0}, {0, 1, 1, 7},
            {0, 0, 2, 0}, {2, 13, 2, 2}, {1, 1, 0, 1}, {1, 2, 3, 4}, {0, 1, 2, 3}, {0, 2, 1, 3}};
        AreaOrders x = Due.mapOf("m;p42;b63;d52;p11,0123,0213");
        for (int what = 0; what <= 8; what++) {
            each(x, what, want[what]);
        }
        s.of(3, "10 SERIAL, 11 its place in ORDER 0, 12 in ORDER 1 (from 0 on)");
        for (int what = 9; what <= 12; what++) {
            each(x, what, want[what]);
        }
        AreaOrders six = Due.mapOf(SIX + ",543210,120345");
        each(six, 11, 5, 4, 3, 2, 1, 0);
        each(six, 12, 2, 0, 1, 3, 4, 5);
        s.of(3, "UNKNOWN");
        for (int a : new int[] {MIN, -1, 4, 5, 6, MAX}) {
            s.is("ofArea(" + a + ", 0)", x.ofArea(a, 0), UNKNOWN);
            s.is("ofArea(" + a + ", 13)", x.ofArea(a, 13), UNKNOWN);
        }
        s.is("ofArea(6, 0) of six", six.ofArea(6, 0), UNKNOWN);
        s.is("ofArea(5, 0) of six", six.ofArea(5, 0), 0);
        s.of(3, "OUTSIDE");
        for (int what : new int[] {MIN, -1, 13, MAX}) {
            s.is("ofArea(3, " + what + ")", x.ofArea(3, what), OUTSIDE);
        }
    }

    // Promises 4 and 5

    private void widths() {
        s.of(4, "WIDTHS, PLOTS are told anew");
        AreaOrders x = Due.mapOf("m;p95;p11,01,01");
        x.width(0, 2);
        each(x, 3, 5, 1);
        each(x, 4, 0, 2);
        s.is("BREADTH", x.whole(0), 3);
        s.is("DEPTH", x.whole(1), 5);
        s.of(4, "WIDTH of an AREA becomes v (1 .. 9): what it was");
        s.is("width(0, 9)", x.width(0, 9), 2);
        each(x, 2, 9, 1);
        s.is("width(0, 1)", x.width(0, 1), 9);
        s.is("width(0, 1), as it is", x.width(0, 1), 1);
        each(x, 2, 1, 1);
        s.is("PLOT stays", x.ofArea(0, 1), 9);
        s.of(4, "UNKNOWN");
        for (int a : new int[] {MIN, -1, 2, MAX}) {
            s.is("width(" + a + ", 1)", x.width(a, 1), UNKNOWN);
            s.is("width(" + a + ", 0)", x.width(a, 0), UNKNOWN);
        }
        s.of(4, "OUTSIDE");
        for (int v : new int[] {MIN, -1, 0, 10, MAX}) {
            s.is("width(1, " + v + ")", x.width(1, v), OUTSIDE);
        }
        each(x, 2, 1, 1);
    }

    private void plots() {
        s.of(5, "WIDTHS, PLOTS are told anew");
        AreaOrders x = Due.mapOf("m;d12;p11,01,10");
        x.plot(0, 5);
        each(x, 3, 5, 1);
        each(x, 5, 0, 5);
        s.is("DEPTH", x.whole(1), 6);
        s.of(5, "PLOT of an AREA becomes v (1 .. 9): what it was");
        s.is("plot(0, 9)", x.plot(0, 9), 5);
        each(x, 1, 9, 1);
        s.is("plot(0, 1)", x.plot(0, 1), 9);
        s.is("plot(0, 1), as it is", x.plot(0, 1), 1);
        each(x, 1, 1, 1);
        s.is("WIDTH stays", x.ofArea(0, 2), 2);
        s.of(5, "UNKNOWN");
        for (int a : new int[] {MIN, -1, 2, MAX}) {
            s.is("plot(" + a + ", 1)", x.plot(a, 1), UNKNOWN);
            s.is("plot(" + a + ", 0)", x.plot(a, 0), UNKNOWN);
        }
        s.of(5, "OUTSIDE");
        for (int v : new int[] {MIN, -1, 0, 10, MAX}) {
            s.is("plot(1, " + v + ")", x.plot(1, v), OUTSIDE);
        }
        each(x, 1, 1, 1);
    }

    // Promise 6

    private void turns() {
        s.of(6, "ORDERS are TURNED: two that stand side by side in one change places");
        AreaOrders x = Due.mapOf("m;p11;p11;p11,012,012");
        x.turn(0, 1);
        each(x, 11, 0, 2, 1);
        each(x, 12, 0, 1, 2);
        each(x, 7, 0, 4, 0);
        x.turn(1, 0);
        each(x, 11, 0, 2, 1);
        each(x, 12, 1, 0, 2);
        s.of(6, "The AREAS in places k and k and 1 of an ORDER (0, 1) change places: the one that stands in place k then");
        AreaOrders six = Due.mapOf(SIX + ",012345,543210");
        s.is("the first two of ORDER 0", six.turn(0, 0), 1);
        s.is("the last two of ORDER 0", six.turn(0, 4), 5);
        s.is("the first two of ORDER 1", six.turn(1, 0), 4);
        s.is("the last two of ORDER 1", six.turn(1, 4), 0);
        each(six, 11, 1, 0, 2, 3, 5, 4);
        each(six, 12, 4, 5, 3, 2, 0, 1);
        s.is("and back", six.turn(1, 4), 1);
        each(six, 12, 5, 4, 3, 2, 0, 1);
    }

    private void turnsRefused() {
        AreaOrders six = Due.mapOf(SIX + ",012345,543210");
        AreaOrders one = Due.mapOf("m;p11,0,0");
        s.of(6, "OUTSIDE: the ORDER");
        for (int order : new int[] {MIN, -1, 2, MAX}) {
            s.is("turn(" + order + ", 0)", six.turn(order, 0), OUTSIDE);
            s.is("turn(" + order + ", 9)", six.turn(order, 9), OUTSIDE);
        }
        s.is("without a MAP", new AreaOrders().turn(2, 0), OUTSIDE);
        s.of(6, "UNKNOWN: a place");
        for (int k : new int[] {MIN, -1, 5, 6, MAX - 1, MAX}) {
            s.is("turn(0, " + k + ")", six.turn(0, k), UNKNOWN);
            s.is("turn(1, " + k + ")", six.turn(1, k), UNKNOWN);
        }
        s.is("of one AREA", one.turn(0, 0), UNKNOWN);
        s.is("without a MAP", new AreaOrders().turn(0, 0), UNKNOWN);
        s.is("without a MAP", new AreaOrders().turn(1, -1), UNKNOWN);
        each(six, 11, 0, 1, 2, 3, 4, 5);
        each(six, 12, 5, 4, 3, 2, 1, 0);
    }
}
