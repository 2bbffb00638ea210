/** All promises: runs of calls that a counter chooses, on the class and on the model. */
public final class RandomRunsTest {
    private static final int[] FAR = {Integer.MIN_VALUE, Integer.MIN_VALUE + 1, -100, -1, 6, 7, 60, 61, 62, 120, 121,
        9999, 10000, 65536 + 109, Integer.MAX_VALUE - 1, Integer.MAX_VALUE};

    private final Due due = new Due();
    private long seed;
    private AreaOrders x;
    private Model m;
    private int calls;
    private String run;

    public static void main(String[] args) {
        int runs = args.length > 0 ? Integer.parseInt(args[0]) : 400;
        RandomRunsTest test = new RandomRunsTest();
        for (int k = 0; k < runs; k++) {
            test.oneRun(k);
        }
        test.due.end();
    }

    private int any(int n) {
        seed = seed * 6364136223846793005L + 1442695040888963407L;
        return (int) ((seed >>> 33) % n);
    }

    /** Most often low .. high, now and then a little or far outside of it. */
    private int some(int low, int high) {
        int how = any(40);
        if (how == 0) {
            return FAR[any(FAR.length)];
        }
        if (how == 1) {
            return low - 1;
        }
        if (how == 2) {
            return high + 1;
        }
        return low + any(high - low + 1);
    }

    private void same(String call, long got, long want) {
        calls++;
        due.is(run + ", call " + calls + ": " + call, got, want);
    }

    private void oneRun(int k) {
        seed = k * 7919L + 1;
        x = new AreaOrders();
        m = new Model();
        calls = 0;
        run = "run " + k;
        if (any(8) != 0) {
            text(0);
        }
        for (int step = 0; step < 512 && calls < 512 - 45; step++) {
            step();
        }
    }

    private void step() {
        switch (any(26)) {
            case 0 -> text(any(3));
            case 1 -> one("width", some(0, 5), some(1, 9));
            case 2 -> one("plot", some(0, 5), some(1, 9));
            case 3 -> one("turn", some(0, 1), some(0, 4));
            case 4 -> one("squeeze", some(1, 30), 0);
            case 5 -> threes();
            case 6 -> one("least", some(-1, 5), 0);
            case 7 -> pairs();
            case 8, 9 -> readOne();
            case 10 -> one("back", some(0, 3), 0);
            case 11 -> one("kinds", some(0, 5), 0);
            case 12 -> one("widths", some(0, 5), 0);
            case 13 -> oneOdds();
            case 14 -> one("tell", some(0, 5), 0);
            case 15 -> one("survey", some(0, 5), 0);
            case 16 -> one("as", some(0, 5), some(0, 2));
            case 17 -> cells();
            case 18 -> rawRow();
            case 19 -> one("lose", some(0, 3), 0);
            case 20 -> one("whole", some(0, 5), 0);
            default -> one("ofArea", some(0, 5), some(0, 12));
        }
        same("fault", x.fault(), m.fault());
        if (any(4) == 0) {
            look();
        }
    }

    private void look() {
        same("trace", x.trace(), m.trace());
        for (int what = 0; what < 4; what++) {
            same("many " + what, x.many(what), m.many(what));
        }
        int more = some(0, 3);
        same("many " + more, x.many(more), m.many(more));
    }

    private void one(String name, int a, int b) {
        String call = name + "(" + a + ", " + b + ")";
        switch (name) {
            case "width" -> same(call, x.width(a, b), m.width(a, b));
            case "plot" -> same(call, x.plot(a, b), m.plot(a, b));
            case "turn" -> same(call, x.turn(a, b), m.turn(a, b));
            case "squeeze" -> same(call, x.squeeze(a), m.squeeze(a));
            case "least" -> same(call, x.least(a), m.least(a));
            case "back" -> same(call, x.back(a), m.back(a));
            case "kinds" -> same(call, x.kinds(a), m.kinds(a));
            case "widths" -> same(call, x.widths(a), m.widths(a));
            case "tell" -> same(call, x.tell(a), m.tell(a));
            case "survey" -> same(call, x.survey(a), m.survey(a));
            case "as" -> same(call, x.as(a, b), m.as(a, b));
            case "lose" -> same(call, x.lose(a), m.lose(a));
            case "whole" -> same(call, x.whole(a), m.whole(a));
            case "reading" -> same(call, x.reading(a, b), m.reading(a, b));
            case "odds" -> same(call, x.odds(a, b), m.odds(a, b));
            case "ofArea" -> same(call, x.ofArea(a, b), m.ofArea(a, b));
            default -> throw new IllegalArgumentException(name);
        }
    }

    /** A READING is as often so as not. */
    private void readOne() {
        int a = some(0, 5);
        one("reading", a, any(2) == 0 ? m.ofArea(a, 5) : some(0, 20));
    }

    private void oneOdds() {
        one("odds", any(6) == 0 ? some(0, 9999) : some(0, 150), some(0, 1));
    }

    private void row(int sheet, int lane, int from, int[] cells) {
        int n = from + cells.length;
        same("sheet", x.sheet(sheet, lane, n), m.sheet(sheet, lane, n));
        for (int i = 0; i < cells.length; i++) {
            same("put " + cells[i], x.put(sheet, from + i, cells[i]), m.put(sheet, from + i, cells[i]));
        }
    }

    private String order(int count) {
        StringBuilder left = new StringBuilder("012345".substring(0, count));
        StringBuilder out = new StringBuilder();
        while (left.length() > 0) {
            int at = any(left.length());
            out.append(left.charAt(at));
            left.deleteCharAt(at);
        }
        return out.toString();
    }

    /** A TEXT; spoilt in how many codes. */
    private void text(int spoilt) {
        int count = 1 + any(6);
        StringBuilder text = new StringBuilder("m");
        for (int a = 0; a < count; a++) {
            text.append(';').append("pbd".charAt(any(3))).append(1 + any(9)).append(1 + any(any(2) == 0 ? 9 : 4));
        }
        text.append(',').append(order(count)).append(',').append(order(count));
        for (int k = 0; k < spoilt; k++) {
            int at = any(text.length());
            switch (any(3)) {
                case 0 -> text.setLength(at);
                case 1 -> text.setCharAt(at, "mpbd;,0123456789x".charAt(any(17)));
                default -> text.insert(at, "mpbd;,0123456789x".charAt(any(17)));
            }
            if (text.length() == 0) {
                text.append('m');
            }
        }
        int lane = any(3);
        int sheet = any(4);
        int from = any(2) * any(5);
        row(sheet, lane, from, Due.codes(text.toString()));
        int taken = any(10) == 0 ? any(3) : lane;
        int n = any(10) == 0 ? some(0, text.length()) : text.length();
        same("map " + text, x.map(sheet, taken, from, n), m.map(sheet, taken, from, n));
    }

    private void threes() {
        int n = 1 + any(4);
        int[] cells = new int[3 * n];
        for (int k = 0; k < n; k++) {
            cells[3 * k] = any(30) == 0 ? some(0, 2) : any(3);
            boolean turned = cells[3 * k] == 2;
            cells[3 * k + 1] = turned ? some(0, 1) : some(0, 3);
            cells[3 * k + 2] = turned ? some(0, 2) : some(1, 9);
        }
        int sheet = any(4);
        int lane = any(3);
        row(sheet, lane, 0, cells);
        for (int k = 0; k < 5; k++) {
            int taken = any(12) == 0 ? some(0, 2) : lane;
            int from = any(12) == 0 ? some(0, 61) : 0;
            int many = any(12) == 0 ? some(0, 20) : n;
            int what = any(3) == 0 ? some(10, 15) : some(0, 4);
            int from1 = any(30) == 0 ? some(0, 3) : sheet;
            same("day " + what, x.day(from1, taken, from, many, what), m.day(from1, taken, from, many, what));
            same("fault", x.fault(), m.fault());
        }
    }

    private void pairs() {
        int n = any(6);
        int[] cells = new int[2 * n];
        int top = Math.max(1, m.many(0));
        for (int k = 0; k < 2 * n; k++) {
            cells[k] = any(40) == 0 ? some(0, 5) : any(top);
        }
        int sheet = any(4);
        int lane = any(3);
        row(sheet, lane, 0, cells);
        for (int k = 0; k < 2; k++) {
            int taken = any(12) == 0 ? some(0, 2) : lane;
            int from = any(12) == 0 ? some(0, 61) : 0;
            int many = any(12) == 0 ? some(0, 20) : n;
            int from1 = any(30) == 0 ? some(0, 3) : sheet;
            same("wishes", x.wishes(from1, taken, from, many), m.wishes(from1, taken, from, many));
            same("fault", x.fault(), m.fault());
        }
    }

    private void rawRow() {
        int k = some(0, 3);
        int lane = some(0, 2);
        int n = any(2) == 0 ? some(0, 60) : some(0, 8);
        same("sheet", x.sheet(k, lane, n), m.sheet(k, lane, n));
    }

    private void cells() {
        for (int times = 0; times < 4; times++) {
            int k = some(0, 3);
            int i = some(0, 8);
            int v = any(2) == 0 ? some(-130, 130) : any(1 << 30) * 4 + any(4);
            same("put " + k + " " + i, x.put(k, i, v), m.put(k, i, v));
            same("fault", x.fault(), m.fault());
            int other = some(0, 3);
            int lane = some(0, 2);
            same("cell " + k + " " + i, x.cell(k, i, lane), m.cell(k, i, lane));
            same("fault", x.fault(), m.fault());
            int j = some(0, 8);
            int n = some(0, 6);
            same("copy", x.copy(k, i, other, j, n), m.copy(k, i, other, j, n));
            same("fault", x.fault(), m.fault());
        }
    }
}
