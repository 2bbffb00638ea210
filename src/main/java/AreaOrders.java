/**
 * A map of rectangles, whose places follow from two orders of them.
 * The words in capitals are those of the document.
 */
public final class AreaOrders {
    public static final int UNKNOWN = -1, OUTSIDE = -2, STATE = -3, FULL = -4, NONE = -9;
    public static final long LOST = Long.MIN_VALUE;

    private static final int NULL = 1, CAST = 2, INDEX = 3, SIZE = 4;
    private static final int PLAIN = 0, BROAD = 1, DOUBLE = 2;
    private static final int BYTES = 0, SHORTS = 1, INTS = 2;
    private static final int SHEETS = 4, MOST_CELLS = 60;
    private static final int MOST_AREAS = 6, MOST_READINGS = 8, MOST_TOLD = 20;
    private static final int MOST_WIDTH = 9, MOST_PLOT = 9;
    private static final int MOST_ROUNDS = MOST_AREAS * (MOST_WIDTH - 1);
    private static final int NOBODY = -1;
    /** As a set: each bit of it. */
    private static final int EVERYBODY = -1;
    private static final int[] HOW_MANY_ORDERS = {1, 1, 2, 6, 24, 120, 720};

    private final Plan plan = new Plan();
    /** What would be: it is made from the plan anew by each call that uses it. */
    private final Plan trial = new Plan();
    private final Reader reader = new Reader();
    private final Sheet[] sheets = new Sheet[SHEETS];
    private final int[] leastOrder = new int[MOST_AREAS];
    private final int[] readArea = new int[MOST_READINGS];
    private final int[] readY = new int[MOST_READINGS];
    private int readings;
    private int traced;
    private int latestFault;

    public AreaOrders() {
        for (int k = 0; k < SHEETS; k++) {
            sheets[k] = new Sheet();
        }
    }

    // ---- 1 the map

    public int map(int sheet, int lane, int i, int n) {
        latestFault = 0;
        if (!isSheet(sheet)) {
            return UNKNOWN;
        }
        if (!isLane(lane)) {
            return OUTSIDE;
        }
        Sheet row = sheets[sheet];
        int found = row.faultAs(lane);
        if (found == 0 && n < 0) {
            found = SIZE;
        }
        if (found == 0 && !row.hasCells(i, n)) {
            found = INDEX;
        }
        if (found != 0) {
            return failed(found);
        }
        if (!reader.takes(row.cells, i, n)) {
            return -100 - reader.at;
        }
        plan.becomeLike(reader.draft);
        readings = 0;
        return plan.count;
    }

    public int ofArea(int a, int what) {
        if (!plan.hasArea(a)) {
            return UNKNOWN;
        }
        switch (what) {
            case 0: return plan.kind[a];
            case 1: return plan.plot[a];
            case 2: return plan.width[a];
            case 3: return plan.height[a];
            case 4: return plan.x[a];
            case 5: return plan.y[a];
            case 6: return plan.leftOf(a);
            case 7: return plan.aboveOf(a);
            case 8: return plan.touching(a);
            case 9: return plan.isCritical(a) ? 1 : 0;
            case 10: return plan.serial[a];
            case 11: return plan.place[0][a];
            case 12: return plan.place[1][a];
            default: return OUTSIDE;
        }
    }

    public int width(int a, int v) {
        if (!plan.hasArea(a)) {
            return UNKNOWN;
        }
        if (!isWidth(v)) {
            return OUTSIDE;
        }
        int was = plan.width[a];
        plan.width[a] = v;
        plan.lay();
        return was;
    }

    public int plot(int a, int v) {
        if (!plan.hasArea(a)) {
            return UNKNOWN;
        }
        if (!isPlot(v)) {
            return OUTSIDE;
        }
        int was = plan.plot[a];
        plan.plot[a] = v;
        plan.lay();
        return was;
    }

    public int turn(int order, int k) {
        if (!isOrder(order)) {
            return OUTSIDE;
        }
        if (!plan.hasPlaceBehind(k)) {
            return UNKNOWN;
        }
        plan.turnPlaces(order, k);
        plan.lay();
        return plan.order[order][k];
    }

    // ---- 2 the whole

    public int whole(int what) {
        if (what < 0 || what > 5) {
            return OUTSIDE;
        }
        if (what == 5) {
            return reader.everRead;
        }
        if (plan.count == 0) {
            return STATE;
        }
        switch (what) {
            case 0: return plan.breadth;
            case 1: return plan.depth;
            case 2: return plan.waste();
            case 3: return plan.touchingTwos();
            default: return plan.criticalOnes();
        }
    }

    public int squeeze(int v) {
        if (v < 1 || v > 60) {
            return OUTSIDE;
        }
        if (plan.count == 0) {
            return STATE;
        }
        trial.becomeLike(plan);
        for (int rounds = 0; rounds <= MOST_ROUNDS; rounds++) {
            if (trial.breadth <= v) {
                plan.becomeLike(trial);
                return rounds;
            }
            int a = trial.nextToNarrow();
            if (a == NOBODY) {
                return NONE;
            }
            trial.width[a]--;
            trial.lay();
        }
        return NONE;
    }

    public int day(int sheet, int lane, int i, int n, int what) {
        latestFault = 0;
        if (!isSheet(sheet)) {
            return UNKNOWN;
        }
        if (!isLane(lane) || !isTold(n) || !isAskedOfDay(what)) {
            return OUTSIDE;
        }
        Sheet row = sheets[sheet];
        int found = faultOfRow(row, lane, i, 3 * n);
        if (found != 0) {
            return failed(found);
        }
        if (plan.count == 0) {
            return STATE;
        }
        if (!sortsAreKnown(row.cells, i, n)) {
            return OUTSIDE;
        }
        int wrong = firstWrong(row.cells, i, n);
        if (what == 1) {
            return wrong;
        }
        return wrong == NONE ? ofTrial(what) : -100 - wrong;
    }

    // ---- 3 least, wishes

    public int least(int k) {
        if (k < -1 || k >= MOST_AREAS) {
            return OUTSIDE;
        }
        if (plan.count == 0) {
            return STATE;
        }
        int found = findLeast();
        if (k == -1) {
            return found;
        }
        return k < plan.count ? leastOrder[k] : NONE;
    }

    public int wishes(int sheet, int lane, int i, int n) {
        latestFault = 0;
        if (!isSheet(sheet)) {
            return UNKNOWN;
        }
        if (!isLane(lane) || !isTold(n)) {
            return OUTSIDE;
        }
        Sheet row = sheets[sheet];
        int found = faultOfRow(row, lane, i, 2 * n);
        if (found != 0) {
            return failed(found);
        }
        if (plan.count == 0) {
            return STATE;
        }
        if (!allAreAreas(row.cells, i, 2 * n)) {
            return UNKNOWN;
        }
        int met = 0;
        for (int w = 0; w < n; w++) {
            if (plan.touch(row.cells[i + 2 * w], row.cells[i + 2 * w + 1])) {
                met++;
            }
        }
        return met;
    }

    // ---- 4 where they begin

    public int reading(int a, int v) {
        if (!plan.hasArea(a)) {
            return UNKNOWN;
        }
        if (v < 0 || v > 120) {
            return OUTSIDE;
        }
        if (readings >= MOST_READINGS) {
            return FULL;
        }
        int number = readings;
        readArea[number] = a;
        readY[number] = v;
        readings = number + 1;
        return number;
    }

    public int back(int n) {
        if (n < 0 || n > readings) {
            return OUTSIDE;
        }
        readings -= n;
        return readings;
    }

    public int kinds(int a) {
        if (!plan.hasArea(a)) {
            return UNKNOWN;
        }
        trial.becomeLike(plan);
        int set = 0;
        for (int k = PLAIN; k <= DOUBLE; k++) {
            trial.kind[a] = k;
            trial.lay();
            if (readingsHold()) {
                set |= 1 << k;
            }
        }
        return set;
    }

    public int widths(int a) {
        if (!plan.hasArea(a)) {
            return UNKNOWN;
        }
        trial.becomeLike(plan);
        int set = 0;
        for (int w = 1; w <= MOST_WIDTH; w++) {
            trial.width[a] = w;
            trial.lay();
            if (readingsHold()) {
                set |= 1 << w;
            }
        }
        return set;
    }

    public long odds(int v, int which) {
        if (v < 0 || v > 9999 || which < 0 || which > 1) {
            return LOST;
        }
        if (plan.count == 0) {
            return LOST;
        }
        int all = HOW_MANY_ORDERS[plan.count];
        int few = ordersWithin(v);
        int common = commonDivisor(few, all);
        if (common < 1) {
            return LOST;
        }
        return which == 0 ? few / common : all / common;
    }

    // ---- 5 sheets, parts

    public int sheet(int k, int lane, int n) {
        latestFault = 0;
        if (!isSheet(k)) {
            return UNKNOWN;
        }
        if (!isLane(lane) || n > MOST_CELLS) {
            return OUTSIDE;
        }
        if (n < 0) {
            return failed(SIZE);
        }
        sheets[k].renew(lane, n);
        return 1;
    }

    public int lose(int k) {
        if (!isSheet(k)) {
            return UNKNOWN;
        }
        boolean had = sheets[k].there;
        sheets[k].there = false;
        return had ? 1 : 0;
    }

    public int put(int k, int i, int v) {
        latestFault = 0;
        if (!isSheet(k)) {
            return UNKNOWN;
        }
        Sheet row = sheets[k];
        if (!row.there) {
            return failed(NULL);
        }
        if (!row.hasCell(i)) {
            return failed(INDEX);
        }
        row.cells[i] = cutTo(row.lane, v);
        return 1;
    }

    public long cell(int k, int i, int lane) {
        latestFault = 0;
        if (!isSheet(k) || !isLane(lane)) {
            return LOST;
        }
        Sheet row = sheets[k];
        int found = row.faultAs(lane);
        if (found == 0 && !row.hasCell(i)) {
            found = INDEX;
        }
        if (found != 0) {
            latestFault = found;
            return LOST;
        }
        return row.cells[i];
    }

    public int copy(int k, int i, int other, int j, int n) {
        latestFault = 0;
        if (!isSheet(k) || !isSheet(other)) {
            return UNKNOWN;
        }
        Sheet from = sheets[k];
        Sheet to = sheets[other];
        if (!from.there || !to.there) {
            return failed(NULL);
        }
        if (from.lane != to.lane) {
            return failed(CAST);
        }
        if (!from.hasCells(i, n) || !to.hasCells(j, n)) {
            return failed(INDEX);
        }
        System.arraycopy(from.cells, i, to.cells, j, n);
        return n;
    }

    public int tell(int a) {
        if (!plan.hasArea(a)) {
            return UNKNOWN;
        }
        switch (plan.kind[a]) {
            case DOUBLE: return doubleBody(a);
            case BROAD: return broadBody(a);
            default: return plainBody(a);
        }
    }

    public int survey(int a) {
        if (!plan.hasArea(a)) {
            return UNKNOWN;
        }
        return plan.kind[a] == DOUBLE ? ownBody(a) : lentBody(a);
    }

    public int as(int a, int kind) {
        latestFault = 0;
        if (!plan.hasArea(a)) {
            return UNKNOWN;
        }
        if (kind < PLAIN || kind > DOUBLE) {
            return OUTSIDE;
        }
        // Each kind is one of all the kinds with a lower number, too.
        return plan.kind[a] < kind ? failed(CAST) : 1;
    }

    public int trace() {
        return traced;
    }

    public int fault() {
        return latestFault;
    }

    public int many(int what) {
        switch (what) {
            case 0: return plan.count;
            case 1: return plan.breadth;
            case 2: return plan.depth;
            case 3: return readings;
            default: return OUTSIDE;
        }
    }

    // What numbers are as told

    private static boolean isSheet(int k) {
        return k >= 0 && k < SHEETS;
    }

    private static boolean isLane(int lane) {
        return lane >= BYTES && lane <= INTS;
    }

    private static boolean isOrder(int order) {
        return order == 0 || order == 1;
    }

    private static boolean isWidth(int v) {
        return v >= 1 && v <= MOST_WIDTH;
    }

    private static boolean isPlot(int v) {
        return v >= 1 && v <= MOST_PLOT;
    }

    private static boolean isTold(int n) {
        return n >= 0 && n <= MOST_TOLD;
    }

    private static boolean isAskedOfDay(int what) {
        return what >= 0 && what <= 4 || what >= 10 && what < 10 + MOST_AREAS;
    }

    private static int cutTo(int lane, int v) {
        switch (lane) {
            case BYTES: return (byte) v;
            case SHORTS: return (short) v;
            default: return v;
        }
    }

    // Faults

    private int failed(int found) {
        latestFault = found;
        return -10 - found;
    }

    private static int faultOfRow(Sheet row, int lane, int i, int n) {
        int found = row.faultAs(lane);
        if (found != 0) {
            return found;
        }
        return row.hasCells(i, n) ? 0 : INDEX;
    }

    // A DAY

    private static boolean sortsAreKnown(int[] cells, int i, int n) {
        for (int act = 0; act < n; act++) {
            int sort = cells[i + 3 * act];
            if (sort < 0 || sort > 2) {
                return false;
            }
        }
        return true;
    }

    /** Leaves in the trial how all is behind the DAY, if no act is wrong. */
    private int firstWrong(int[] cells, int i, int n) {
        trial.becomeLike(plan);
        for (int act = 0; act < n; act++) {
            int at = i + 3 * act;
            if (!actOnTrial(cells[at], cells[at + 1], cells[at + 2])) {
                return act;
            }
        }
        trial.lay();
        return NONE;
    }

    private boolean actOnTrial(int sort, int which, int v) {
        if (sort == 2) {
            if (!isOrder(which) || !trial.hasPlaceBehind(v)) {
                return false;
            }
            trial.turnPlaces(which, v);
            return true;
        }
        if (!trial.hasArea(which)) {
            return false;
        }
        if (sort == 0) {
            if (!isWidth(v)) {
                return false;
            }
            trial.width[which] = v;
            return true;
        }
        if (!isPlot(v)) {
            return false;
        }
        trial.plot[which] = v;
        return true;
    }

    private int ofTrial(int what) {
        switch (what) {
            case 0: return trial.breadth;
            case 2: return trial.depth;
            case 3: return trial.waste();
            case 4: return trial.touchingTwos();
            default: return trial.hasArea(what - 10) ? trial.x[what - 10] : NONE;
        }
    }

    // LEAST, WISHES, READINGS, ODDS

    /** Leaves the ORDER in its row, and answers its BREADTH times DEPTH. */
    private int findLeast() {
        int found = 0;
        int all = HOW_MANY_ORDERS[plan.count];
        trial.becomeLike(plan);
        trial.startOrders();
        for (int k = 0; k < all; k++) {
            trial.lay();
            int here = trial.breadth * trial.depth;
            if (k == 0 || here < found) {
                found = here;
                System.arraycopy(trial.order[1], 0, leastOrder, 0, trial.count);
            }
            trial.stepOrder();
        }
        return found;
    }

    private int ordersWithin(int v) {
        int few = 0;
        int all = HOW_MANY_ORDERS[plan.count];
        trial.becomeLike(plan);
        trial.startOrders();
        for (int k = 0; k < all; k++) {
            trial.lay();
            if (trial.breadth * trial.depth <= v) {
                few++;
            }
            trial.stepOrder();
        }
        return few;
    }

    private static int commonDivisor(int few, int all) {
        int a = all;
        int b = few;
        for (int step = 0; step < 64 && b != 0; step++) {
            int rest = a % b;
            a = b;
            b = rest;
        }
        return a;
    }

    private boolean allAreAreas(int[] cells, int i, int n) {
        for (int k = 0; k < n; k++) {
            if (!plan.hasArea(cells[i + k])) {
                return false;
            }
        }
        return true;
    }

    private boolean readingsHold() {
        for (int r = 0; r < readings; r++) {
            if (trial.y[readArea[r]] != readY[r]) {
                return false;
            }
        }
        return true;
    }

    // Bodies that leave their number in TRACE

    private void leave(int number) {
        traced = 31 * traced + number;
    }

    private int plainBody(int a) {
        leave(1);
        return plan.plot[a];
    }

    private int broadBody(int a) {
        leave(2);
        return plainBody(a) + 100;
    }

    private int doubleBody(int a) {
        leave(3);
        int broad = broadBody(a);
        return broad + plainBody(a);
    }

    private int lentBody(int a) {
        leave(4);
        return plan.width[a];
    }

    private int ownBody(int a) {
        leave(5);
        return lentBody(a) + 30;
    }

    /** A SHEET: its cells stand in one row for good, whatever its LANE and its length are. */
    private static final class Sheet {
        boolean there;
        int lane;
        int length;
        final int[] cells = new int[MOST_CELLS];

        void renew(int newLane, int newLength) {
            there = true;
            lane = newLane;
            length = newLength;
            for (int i = 0; i < MOST_CELLS; i++) {
                cells[i] = 0;
            }
        }

        /** The FAULT of taking it as a row of a LANE; 0: there is none. */
        int faultAs(int wanted) {
            if (!there) {
                return NULL;
            }
            return lane == wanted ? 0 : CAST;
        }

        boolean hasCell(int i) {
            return i >= 0 && i < length;
        }

        boolean hasCells(int i, int n) {
            return i >= 0 && i <= length && n >= 0 && n <= length - i;
        }
    }

    /** Reads a TEXT into a draft. */
    private static final class Reader {
        final Plan draft = new Plan();
        final int[] codes = new int[MOST_CELLS];
        int length;
        /** The place of the code that comes next; it is the FIRST FAULT, if the TEXT isn't taken. */
        int at;
        int everRead;

        boolean takes(int[] cells, int from, int n) {
            System.arraycopy(cells, from, codes, 0, n);
            length = n;
            at = 0;
            draft.count = 0;
            return takesCode('m') && takesAreas() && takesOrder(0) && takesOrder(1) && at == length;
        }

        private boolean takesCode(int wanted) {
            if (at >= length || codes[at] != wanted) {
                return false;
            }
            at++;
            return true;
        }

        /** The digit that comes next, if it is one of these; -1 otherwise. */
        private int takeDigit(int low, int high) {
            if (at >= length || codes[at] < '0' + low || codes[at] > '0' + high) {
                return -1;
            }
            at++;
            return codes[at - 1] - '0';
        }

        private int takeKind() {
            if (takesCode('p')) {
                return PLAIN;
            }
            if (takesCode('b')) {
                return BROAD;
            }
            return takesCode('d') ? DOUBLE : -1;
        }

        private boolean takesAreas() {
            for (int a = 0; a < MOST_AREAS && takesCode(';'); a++) {
                if (!takesArea(a)) {
                    return false;
                }
            }
            return draft.count > 0;
        }

        private boolean takesArea(int a) {
            int kind = takeKind();
            if (kind < 0) {
                return false;
            }
            int plot = takeDigit(1, MOST_PLOT);
            if (plot < 0) {
                return false;
            }
            int width = takeDigit(1, MOST_WIDTH);
            if (width < 0) {
                return false;
            }
            everRead++;
            draft.kind[a] = kind;
            draft.plot[a] = plot;
            draft.width[a] = width;
            draft.serial[a] = everRead;
            draft.count = a + 1;
            return true;
        }

        private boolean takesOrder(int which) {
            if (!takesCode(',')) {
                return false;
            }
            int seen = 0;
            for (int p = 0; p < draft.count; p++) {
                int a = takeDigit(0, draft.count - 1);
                if (a < 0) {
                    return false;
                }
                if ((seen >> a & 1) != 0) {
                    // The code was no fit: it is the FIRST FAULT, not the one behind it.
                    at--;
                    return false;
                }
                seen |= 1 << a;
                draft.order[which][p] = a;
            }
            return true;
        }
    }

    /** AREAS with their ORDERS, and where they lie by these. Who changes them lays them anew. */
    private static final class Plan {
        int count;
        final int[] kind = new int[MOST_AREAS];
        final int[] plot = new int[MOST_AREAS];
        final int[] width = new int[MOST_AREAS];
        final int[] serial = new int[MOST_AREAS];
        final int[][] order = new int[2][MOST_AREAS];
        final int[][] place = new int[2][MOST_AREAS];
        final int[] height = new int[MOST_AREAS];
        final int[] x = new int[MOST_AREAS];
        final int[] y = new int[MOST_AREAS];
        int breadth;
        int depth;

        boolean hasArea(int a) {
            return a >= 0 && a < count;
        }

        boolean hasPlaceBehind(int k) {
            return k >= 0 && k < count - 1;
        }

        void becomeLike(Plan other) {
            count = other.count;
            System.arraycopy(other.kind, 0, kind, 0, MOST_AREAS);
            System.arraycopy(other.plot, 0, plot, 0, MOST_AREAS);
            System.arraycopy(other.width, 0, width, 0, MOST_AREAS);
            System.arraycopy(other.serial, 0, serial, 0, MOST_AREAS);
            System.arraycopy(other.order[0], 0, order[0], 0, MOST_AREAS);
            System.arraycopy(other.order[1], 0, order[1], 0, MOST_AREAS);
            lay();
        }

        void turnPlaces(int which, int k) {
            swap(order[which], k, k + 1);
        }

        private static void swap(int[] row, int i, int j) {
            int held = row[i];
            row[i] = row[j];
            row[j] = held;
        }

        /** Makes ORDER 1 the first of all, by its AREAS. */
        void startOrders() {
            for (int p = 0; p < count; p++) {
                order[1][p] = p;
            }
        }

        /** Makes ORDER 1 the next of all, by its AREAS; the last one stays. */
        void stepOrder() {
            int[] row = order[1];
            int k = count - 2;
            while (k >= 0 && row[k] > row[k + 1]) {
                k--;
            }
            if (k < 0) {
                return;
            }
            int j = count - 1;
            while (j > k + 1 && row[j] < row[k]) {
                j--;
            }
            swap(row, k, j);
            int last = count - 1;
            for (int first = k + 1; first < last; first++) {
                swap(row, first, last);
                last--;
            }
        }

        /** Finds all that follows from kinds, PLOTS, WIDTHS and ORDERS. */
        void lay() {
            findPlaces();
            breadth = 0;
            depth = 0;
            for (int p = 0; p < count; p++) {
                int a = order[0][p];
                height[a] = heightOf(a);
                begin(a, p);
                breadth = Math.max(breadth, x[a] + width[a]);
                depth = Math.max(depth, y[a] + height[a]);
            }
        }

        private void findPlaces() {
            for (int p = 0; p < count; p++) {
                place[0][order[0][p]] = p;
                place[1][order[1][p]] = p;
            }
        }

        /** Finds X and Y of the AREA in place p of ORDER 0; those ahead of it have theirs. */
        private void begin(int a, int p) {
            int farX = 0;
            int farY = 0;
            for (int q = 0; q < p; q++) {
                int b = order[0][q];
                // One that is ahead of it in ORDER 0 is LEFT of it or ABOVE it.
                if (place[1][b] < place[1][a]) {
                    farX = Math.max(farX, x[b] + width[b]);
                } else {
                    farY = Math.max(farY, y[b] + height[b]);
                }
            }
            x[a] = farX;
            y[a] = farY;
        }

        private int sizeOf(int a) {
            switch (kind[a]) {
                case DOUBLE: return 2 * plot[a];
                case BROAD: return plot[a] + 1;
                default: return plot[a];
            }
        }

        /** WIDTH may be 0 while it is tried whether an AREA is CRITICAL. */
        private int heightOf(int a) {
            int wide = width[a];
            return wide < 1 ? 0 : (sizeOf(a) + wide - 1) / wide;
        }

        private boolean isLeft(int b, int a) {
            return place[0][b] < place[0][a] && place[1][b] < place[1][a];
        }

        private boolean isAbove(int b, int a) {
            return place[0][b] < place[0][a] && place[1][b] > place[1][a];
        }

        int leftOf(int a) {
            int set = 0;
            for (int b = 0; b < count; b++) {
                if (isLeft(b, a)) {
                    set |= 1 << b;
                }
            }
            return set;
        }

        int aboveOf(int a) {
            int set = 0;
            for (int b = 0; b < count; b++) {
                if (isAbove(b, a)) {
                    set |= 1 << b;
                }
            }
            return set;
        }

        int touching(int a) {
            int set = 0;
            for (int b = 0; b < count; b++) {
                if (touch(a, b)) {
                    set |= 1 << b;
                }
            }
            return set;
        }

        int touchingTwos() {
            int twos = 0;
            for (int a = 0; a < count; a++) {
                twos += Integer.bitCount(touching(a));
            }
            return twos / 2;
        }

        /** Of an AREA and itself it is no, as none is without a length. */
        boolean touch(int a, int b) {
            return meet(x[a], width[a], x[b], width[b]) && share(y[a], height[a], y[b], height[b])
                || meet(y[a], height[a], y[b], height[b]) && share(x[a], width[a], x[b], width[b]);
        }

        private static boolean meet(int one, int oneLong, int other, int otherLong) {
            return one + oneLong == other || other + otherLong == one;
        }

        private static boolean share(int one, int oneLong, int other, int otherLong) {
            return one < other + otherLong && other < one + oneLong;
        }

        int waste() {
            int used = 0;
            for (int a = 0; a < count; a++) {
                used += width[a] * height[a];
            }
            return breadth * depth - used;
        }

        /** Tries it out, and puts all back. */
        boolean isCritical(int a) {
            int was = breadth;
            width[a]--;
            lay();
            boolean less = breadth < was;
            width[a]++;
            lay();
            return less;
        }

        int criticalOnes() {
            int set = 0;
            for (int a = 0; a < count; a++) {
                if (isCritical(a)) {
                    set |= 1 << a;
                }
            }
            return set;
        }

        /** The AREA that a ROUND of SQUEEZING makes less wide. */
        int nextToNarrow() {
            int a = widestOf(criticalOnes());
            return a == NOBODY ? widestOf(EVERYBODY) : a;
        }

        /** The widest AREA of a set with a WIDTH above 1, of several the least number. */
        private int widestOf(int set) {
            int found = NOBODY;
            int most = 1;
            for (int a = 0; a < count; a++) {
                if ((set >> a & 1) != 0 && width[a] > most) {
                    found = a;
                    most = width[a];
                }
            }
            return found;
        }
    }
}
