import java.math.BigInteger;
import java.util.ArrayList;
import java.util.HashSet;
import java.util.List;
import java.util.Set;

/**
 * The document once more, on other ways: real rows of bytes, shorts and ints whose FAULTS the machine finds,
 * real kinds that extend one another, neighbours by the unit squares that areas cover, places by recursion.
 */
final class Model {
    static final int UNKNOWN = -1, OUTSIDE = -2, STATE = -3, FULL = -4, NONE = -9;
    static final long LOST = Long.MIN_VALUE;

    /** Refused, or a FAULT. */
    private static final class Stop extends RuntimeException {
        final int answer;

        Stop(int answer) {
            this.answer = answer;
        }
    }

    private interface Call {
        long run();
    }

    private interface Surveyed {
        int wide();

        Model owner();

        default int surveyed() {
            owner().leave(4);
            return wide();
        }
    }

    private static class Plain implements Surveyed {
        Model owner;
        int plot, width, serial;

        public int wide() {
            return width;
        }

        public Model owner() {
            return owner;
        }

        int told() {
            owner.leave(1);
            return plot;
        }

        final int plainTold() {
            owner.leave(1);
            return plot;
        }

        int size() {
            return plot;
        }
    }

    private static class Broad extends Plain {
        @Override
        int told() {
            owner.leave(2);
            return super.told() + 100;
        }

        @Override
        int size() {
            return super.size() + 1;
        }
    }

    private static final class Twofold extends Broad {
        @Override
        int told() {
            owner.leave(3);
            return super.told() + plainTold();
        }

        @Override
        int size() {
            return plot * 2;
        }

        @Override
        public int surveyed() {
            owner.leave(5);
            return super.surveyed() + 30;
        }
    }

    /** A state of the MAP that is never changed in place. */
    private final class Shape {
        final List<Plain> areas = new ArrayList<>();
        final List<List<Integer>> orders = List.of(new ArrayList<>(), new ArrayList<>());

        Shape twin() {
            Shape t = new Shape();
            for (Plain p : areas) {
                t.areas.add(made(kindOf(p), p.plot, p.width, p.serial));
            }
            t.orders.get(0).addAll(orders.get(0));
            t.orders.get(1).addAll(orders.get(1));
            return t;
        }

        int count() {
            return areas.size();
        }

        boolean has(int a) {
            return a >= 0 && a < count();
        }

        int height(int a) {
            Plain p = areas.get(a);
            return p.width == 0 ? 99 : (int) Math.ceil(p.size() / (double) p.width);
        }

        boolean ahead(int order, int b, int a) {
            return orders.get(order).indexOf(b) < orders.get(order).indexOf(a);
        }

        boolean left(int b, int a) {
            return ahead(0, b, a) && ahead(1, b, a);
        }

        boolean above(int b, int a) {
            return ahead(0, b, a) && ahead(1, a, b);
        }

        int x(int a) {
            int far = 0;
            for (int b = 0; b < count(); b++) {
                if (left(b, a)) {
                    far = Math.max(far, x(b) + areas.get(b).width);
                }
            }
            return far;
        }

        int y(int a) {
            int far = 0;
            for (int b = 0; b < count(); b++) {
                if (above(b, a)) {
                    far = Math.max(far, y(b) + height(b));
                }
            }
            return far;
        }

        int breadth() {
            int far = 0;
            for (int a = 0; a < count(); a++) {
                far = Math.max(far, x(a) + areas.get(a).width);
            }
            return far;
        }

        int depth() {
            int far = 0;
            for (int a = 0; a < count(); a++) {
                far = Math.max(far, y(a) + height(a));
            }
            return far;
        }

        /** Which area (and 1) covers each unit square. */
        int[][] squares() {
            int[][] on = new int[breadth()][depth()];
            for (int a = 0; a < count(); a++) {
                int x = x(a);
                int y = y(a);
                for (int i = 0; i < areas.get(a).width; i++) {
                    for (int j = 0; j < height(a); j++) {
                        if (on[x + i][y + j] != 0) {
                            throw new IllegalStateException("two areas on one square");
                        }
                        on[x + i][y + j] = a + 1;
                    }
                }
            }
            return on;
        }

        int waste() {
            int free = 0;
            for (int[] column : squares()) {
                for (int one : column) {
                    free += one == 0 ? 1 : 0;
                }
            }
            return free;
        }

        Set<List<Integer>> twos() {
            int[][] on = squares();
            Set<List<Integer>> twos = new HashSet<>();
            for (int i = 0; i < on.length; i++) {
                for (int j = 0; j < on[i].length; j++) {
                    if (i + 1 < on.length) {
                        note(twos, on[i][j], on[i + 1][j]);
                    }
                    if (j + 1 < on[i].length) {
                        note(twos, on[i][j], on[i][j + 1]);
                    }
                }
            }
            return twos;
        }

        void note(Set<List<Integer>> twos, int a, int b) {
            if (a != b && a != 0 && b != 0) {
                twos.add(List.of(Math.min(a, b) - 1, Math.max(a, b) - 1));
            }
        }

        boolean critical(int a) {
            Shape t = twin();
            t.areas.get(a).width--;
            return t.breadth() < breadth();
        }
    }

    private Shape shape = new Shape();
    private final Object[] sheets = new Object[4];
    private final List<int[]> readings = new ArrayList<>();
    private int everRead, trace, fault;

    void leave(int number) {
        trace = trace * 31 + number;
    }

    private static int kindOf(Plain p) {
        return p instanceof Twofold ? 2 : p instanceof Broad ? 1 : 0;
    }

    private Plain made(int kind, int plot, int width, int serial) {
        Plain p = kind == 2 ? new Twofold() : kind == 1 ? new Broad() : new Plain();
        p.owner = this;
        p.plot = plot;
        p.width = width;
        p.serial = serial;
        return p;
    }

    private static void need(boolean so, int refusal) {
        if (!so) {
            throw new Stop(refusal);
        }
    }

    private static long plain(Call call) {
        try {
            return call.run();
        } catch (Stop stop) {
            return stop.answer;
        }
    }

    private long withFaults(Call call) {
        fault = 0;
        try {
            return call.run();
        } catch (Stop stop) {
            return stop.answer;
        } catch (NullPointerException e) {
            fault = 1;
        } catch (ClassCastException | ArrayStoreException e) {
            fault = 2;
        } catch (IndexOutOfBoundsException e) {
            fault = 3;
        } catch (NegativeArraySizeException e) {
            fault = 4;
        }
        return -10 - fault;
    }

    private static void needSheet(int k) {
        need(k >= 0 && k < 4, UNKNOWN);
    }

    private static void needLane(int lane) {
        need(lane >= 0 && lane < 3, OUTSIDE);
    }

    /** Cells as ints; it fails as the machine does, when a row is taken for another one or left. */
    private int[] taken(int k, int lane, long i, long n) {
        long length;
        byte[] bytes = null;
        short[] shorts = null;
        int[] ints = null;
        if (lane == 0) {
            bytes = (byte[]) sheets[k];
            length = bytes.length;
        } else if (lane == 1) {
            shorts = (short[]) sheets[k];
            length = shorts.length;
        } else {
            ints = (int[]) sheets[k];
            length = ints.length;
        }
        if (n < 0) {
            throw new NegativeArraySizeException();
        }
        if (i < 0 || i > length || i + n > length) {
            throw new IndexOutOfBoundsException();
        }
        int[] out = new int[(int) n];
        for (int c = 0; c < n; c++) {
            int at = (int) i + c;
            out[c] = lane == 0 ? bytes[at] : lane == 1 ? shorts[at] : ints[at];
        }
        return out;
    }

    // A TEXT

    private static String textOf(int[] codes) {
        StringBuilder text = new StringBuilder();
        for (int code : codes) {
            text.append(code > 0 && code < 128 ? (char) code : '?');
        }
        return text.toString();
    }

    private static boolean goesOn(String start) {
        String[] parts = start.split(",", -1);
        if (parts.length > 3) {
            return false;
        }
        boolean whole = parts[0].matches("m(;[pbd][1-9][1-9]){1,6}");
        if (parts.length == 1) {
            return whole || parts[0].isEmpty() || parts[0].matches("m(;[pbd][1-9][1-9]){0,5}(|;|;[pbd]|;[pbd][1-9])");
        }
        if (!whole) {
            return false;
        }
        int count = parts[0].length() / 4;
        for (int k = 1; k < parts.length; k++) {
            Set<Character> seen = new HashSet<>();
            for (char c : parts[k].toCharArray()) {
                if (c < '0' || c >= '0' + count || !seen.add(c)) {
                    return false;
                }
            }
            if (k == 1 && parts.length == 3 && seen.size() < count) {
                return false;
            }
        }
        return true;
    }

    private static boolean isWhole(String text) {
        String[] parts = text.split(",", -1);
        return goesOn(text) && parts.length == 3 && parts[2].length() == parts[1].length();
    }

    private int readText(String text) {
        int good = 0;
        while (good < text.length() && goesOn(text.substring(0, good + 1))) {
            good++;
        }
        String head = text.substring(0, good).split(",", -1)[0];
        Shape made = new Shape();
        for (int at = 1; at + 4 <= head.length(); at += 4) {
            everRead++;
            made.areas.add(made("pbd".indexOf(head.charAt(at + 1)), head.charAt(at + 2) - '0',
                head.charAt(at + 3) - '0', everRead));
        }
        if (good < text.length() || !isWhole(text)) {
            return -100 - good;
        }
        String[] parts = text.split(",");
        for (int k = 0; k < 2; k++) {
            for (char c : parts[k + 1].toCharArray()) {
                made.orders.get(k).add(c - '0');
            }
        }
        shape = made;
        readings.clear();
        return made.count();
    }

    int map(int sheet, int lane, int i, int n) {
        return (int) withFaults(() -> {
            needSheet(sheet);
            needLane(lane);
            return readText(textOf(taken(sheet, lane, i, n)));
        });
    }

    int ofArea(int a, int what) {
        return (int) plain(() -> {
            need(shape.has(a), UNKNOWN);
            need(what >= 0 && what <= 12, OUTSIDE);
            Plain p = shape.areas.get(a);
            int set = 0;
            for (int b = 0; b < shape.count(); b++) {
                boolean in = what == 6 && shape.left(b, a) || what == 7 && shape.above(b, a)
                    || what == 8 && shape.twos().contains(List.of(Math.min(a, b), Math.max(a, b)));
                set += in ? Math.pow(2, b) : 0;
            }
            return switch (what) {
                case 0 -> kindOf(p);
                case 1 -> p.plot;
                case 2 -> p.width;
                case 3 -> shape.height(a);
                case 4 -> shape.x(a);
                case 5 -> shape.y(a);
                case 9 -> shape.critical(a) ? 1 : 0;
                case 10 -> p.serial;
                case 11 -> shape.orders.get(0).indexOf(a);
                case 12 -> shape.orders.get(1).indexOf(a);
                default -> set;
            };
        });
    }

    int width(int a, int v) {
        return (int) plain(() -> {
            need(shape.has(a), UNKNOWN);
            need(v > 0 && v < 10, OUTSIDE);
            int was = shape.areas.get(a).width;
            shape.areas.get(a).width = v;
            return was;
        });
    }

    int plot(int a, int v) {
        return (int) plain(() -> {
            need(shape.has(a), UNKNOWN);
            need(v > 0 && v < 10, OUTSIDE);
            int was = shape.areas.get(a).plot;
            shape.areas.get(a).plot = v;
            return was;
        });
    }

    int turn(int order, int k) {
        return (int) plain(() -> {
            need(order == 0 || order == 1, OUTSIDE);
            need(k >= 0 && (long) k + 1 < shape.count(), UNKNOWN);
            java.util.Collections.swap(shape.orders.get(order), k, k + 1);
            return shape.orders.get(order).get(k);
        });
    }

    int whole(int what) {
        return (int) plain(() -> {
            need(what >= 0 && what < 6, OUTSIDE);
            need(what == 5 || shape.count() > 0, STATE);
            return switch (what) {
                case 0 -> shape.breadth();
                case 1 -> shape.depth();
                case 2 -> shape.waste();
                case 3 -> shape.twos().size();
                case 4 -> criticalOnes();
                default -> everRead;
            };
        });
    }

    private int criticalOnes() {
        int set = 0;
        for (int a = 0; a < shape.count(); a++) {
            set += shape.critical(a) ? Math.pow(2, a) : 0;
        }
        return set;
    }

    int squeeze(int v) {
        return (int) plain(() -> {
            need(v >= 1 && v <= 60, OUTSIDE);
            need(shape.count() > 0, STATE);
            Shape t = shape.twin();
            int rounds = 0;
            while (t.breadth() > v) {
                List<Plain> may = new ArrayList<>();
                for (int a = 0; a < t.count(); a++) {
                    if (t.areas.get(a).width > 1 && t.critical(a)) {
                        may.add(t.areas.get(a));
                    }
                }
                if (may.isEmpty()) {
                    may.addAll(t.areas);
                    may.removeIf(p -> p.width <= 1);
                }
                if (may.isEmpty()) {
                    return NONE;
                }
                may.sort((p, q) -> q.width - p.width);
                may.get(0).width--;
                rounds++;
            }
            shape = t;
            return rounds;
        });
    }

    int day(int sheet, int lane, int i, int n, int what) {
        return (int) withFaults(() -> {
            needSheet(sheet);
            needLane(lane);
            need(n >= 0 && n <= 20, OUTSIDE);
            need(what >= 0 && what <= 4 || what >= 10 && what <= 15, OUTSIDE);
            int[] row = taken(sheet, lane, i, 3L * n);
            need(shape.count() > 0, STATE);
            for (int at = 0; at < row.length; at += 3) {
                need(row[at] == 0 || row[at] == 1 || row[at] == 2, OUTSIDE);
            }
            Model m = new Model();
            m.shape = shape.twin();
            int wrong = NONE;
            for (int at = 0; at < row.length && wrong == NONE; at += 3) {
                int done = row[at] == 0 ? m.width(row[at + 1], row[at + 2])
                    : row[at] == 1 ? m.plot(row[at + 1], row[at + 2]) : m.turn(row[at + 1], row[at + 2]);
                wrong = done < 0 ? at / 3 : NONE;
            }
            if (what == 1) {
                return wrong;
            }
            if (wrong != NONE) {
                return -100 - wrong;
            }
            if (what >= 10) {
                return m.shape.has(what - 10) ? m.shape.x(what - 10) : NONE;
            }
            return m.whole(what == 0 ? 0 : what - 1);
        });
    }

    /** All ORDERS of what is left, behind a start, by their AREAS. */
    private static void spread(List<Integer> start, int count, List<List<Integer>> out) {
        if (start.size() == count) {
            out.add(new ArrayList<>(start));
            return;
        }
        for (int a = 0; a < count; a++) {
            if (!start.contains(a)) {
                start.add(a);
                spread(start, count, out);
                start.remove(start.size() - 1);
            }
        }
    }

    private List<List<Integer>> allOrders() {
        List<List<Integer>> out = new ArrayList<>();
        spread(new ArrayList<>(), shape.count(), out);
        return out;
    }

    private int productBy(List<Integer> order) {
        Shape t = shape.twin();
        t.orders.get(1).clear();
        t.orders.get(1).addAll(order);
        return t.breadth() * t.depth();
    }

    int least(int k) {
        return (int) plain(() -> {
            need(k >= -1 && k <= 5, OUTSIDE);
            need(shape.count() > 0, STATE);
            List<Integer> best = null;
            for (List<Integer> order : allOrders()) {
                if (best == null || productBy(order) < productBy(best)) {
                    best = order;
                }
            }
            return k == -1 ? productBy(best) : k < best.size() ? best.get(k) : NONE;
        });
    }

    int wishes(int sheet, int lane, int i, int n) {
        return (int) withFaults(() -> {
            needSheet(sheet);
            needLane(lane);
            need(n >= 0 && n <= 20, OUTSIDE);
            int[] row = taken(sheet, lane, i, 2L * n);
            need(shape.count() > 0, STATE);
            for (int a : row) {
                need(shape.has(a), UNKNOWN);
            }
            int met = 0;
            for (int at = 0; at < row.length; at += 2) {
                int a = row[at];
                int b = row[at + 1];
                met += shape.twos().contains(List.of(Math.min(a, b), Math.max(a, b))) ? 1 : 0;
            }
            return met;
        });
    }

    int reading(int a, int v) {
        return (int) plain(() -> {
            need(shape.has(a), UNKNOWN);
            need(v >= 0 && v <= 120, OUTSIDE);
            need(readings.size() < 8, FULL);
            int before = readings.size();
            readings.add(new int[] {a, v});
            return before;
        });
    }

    int back(int n) {
        return (int) plain(() -> {
            need(n >= 0 && n <= readings.size(), OUTSIDE);
            for (int k = 0; k < n; k++) {
                readings.remove(readings.size() - 1);
            }
            return readings.size();
        });
    }

    private boolean hold(Shape t) {
        return readings.stream().allMatch(r -> t.y(r[0]) == r[1]);
    }

    int kinds(int a) {
        return (int) plain(() -> {
            need(shape.has(a), UNKNOWN);
            int set = 0;
            for (int k = 0; k <= 2; k++) {
                Shape t = shape.twin();
                Plain p = t.areas.get(a);
                t.areas.set(a, made(k, p.plot, p.width, p.serial));
                set += hold(t) ? Math.pow(2, k) : 0;
            }
            return set;
        });
    }

    int widths(int a) {
        return (int) plain(() -> {
            need(shape.has(a), UNKNOWN);
            int set = 0;
            for (int w = 1; w <= 9; w++) {
                Shape t = shape.twin();
                t.areas.get(a).width = w;
                set += hold(t) ? Math.pow(2, w) : 0;
            }
            return set;
        });
    }

    long odds(int v, int which) {
        if (v < 0 || v > 9999 || which != 0 && which != 1 || shape.count() == 0) {
            return LOST;
        }
        List<List<Integer>> orders = allOrders();
        BigInteger few = BigInteger.valueOf(orders.stream().filter(o -> productBy(o) <= v).count());
        BigInteger all = BigInteger.valueOf(orders.size());
        return (which == 0 ? few : all).divide(few.gcd(all)).longValue();
    }

    int sheet(int k, int lane, int n) {
        return (int) withFaults(() -> {
            needSheet(k);
            needLane(lane);
            need(n <= 60, OUTSIDE);
            sheets[k] = lane == 0 ? new byte[n] : lane == 1 ? new short[n] : new int[n];
            return 1;
        });
    }

    int lose(int k) {
        return (int) plain(() -> {
            needSheet(k);
            int had = sheets[k] == null ? 0 : 1;
            sheets[k] = null;
            return had;
        });
    }

    int put(int k, int i, int v) {
        return (int) withFaults(() -> {
            needSheet(k);
            if (sheets[k] instanceof byte[] b) {
                b[i] = (byte) v;
            } else if (sheets[k] instanceof short[] s) {
                s[i] = (short) v;
            } else {
                ((int[]) sheets[k])[i] = v;
            }
            return 1;
        });
    }

    long cell(int k, int i, int lane) {
        long[] out = {LOST};
        withFaults(() -> {
            needSheet(k);
            needLane(lane);
            out[0] = lane == 0 ? ((byte[]) sheets[k])[i] : lane == 1 ? ((short[]) sheets[k])[i] : ((int[]) sheets[k])[i];
            return 0;
        });
        return out[0];
    }

    int copy(int k, int i, int other, int j, int n) {
        return (int) withFaults(() -> {
            needSheet(k);
            needSheet(other);
            System.arraycopy(sheets[k], i, sheets[other], j, n);
            return n;
        });
    }

    int tell(int a) {
        return (int) plain(() -> {
            need(shape.has(a), UNKNOWN);
            return shape.areas.get(a).told();
        });
    }

    int survey(int a) {
        return (int) plain(() -> {
            need(shape.has(a), UNKNOWN);
            return shape.areas.get(a).surveyed();
        });
    }

    int as(int a, int kind) {
        return (int) withFaults(() -> {
            need(shape.has(a), UNKNOWN);
            need(kind >= 0 && kind <= 2, OUTSIDE);
            Plain p = shape.areas.get(a);
            Plain taken = kind == 2 ? (Twofold) p : kind == 1 ? (Broad) p : p;
            return taken == p ? 1 : 0;
        });
    }

    int trace() {
        return trace;
    }

    int fault() {
        return fault;
    }

    int many(int what) {
        return switch (what) {
            case 0 -> shape.count();
            case 1 -> shape.breadth();
            case 2 -> shape.depth();
            case 3 -> readings.size();
            default -> OUTSIDE;
        };
    }
}
