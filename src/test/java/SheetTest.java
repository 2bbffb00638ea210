/** Promises 17 to 21: SHEETS. */
public final class SheetTest {
    private static final Due due = new Due();

    public static void main(String[] args) {
        rows();
        cells();
        copies();
        copiesRefused();
        due.end();
    }

    private static void rows() {
        AreaOrders x = new AreaOrders();
        due.is("sheet", x.sheet(0, 0, 60), 1);
        due.is("first cell", x.put(0, 0, 7), 1);
        due.is("last cell", x.put(0, 59, 7), 1);
        due.is("a new row", x.sheet(0, 2, 60), 1);
        due.is("0 at first", x.cell(0, 0, 2), 0);
        due.is("0 at first", x.cell(0, 59, 2), 0);
        due.is("size", x.sheet(0, 0, -1), -14);
        due.is("size", x.fault(), 4);
        due.is("changes nothing", x.cell(0, 59, 2), 0);
        due.is("n 61", x.sheet(0, 0, 61), -2);
        due.is("refused", x.fault(), 0);
        due.is("lane 3, ahead of size", x.sheet(0, 3, -1), -2);
        due.is("lane -1", x.sheet(0, -1, 1), -2);
        due.is("sheet 4", x.sheet(4, 3, -1), -1);
        due.is("sheet -1", x.sheet(-1, 0, 1), -1);
        due.is("no cells", x.sheet(3, 1, 0), 1);
        due.is("no cells", x.put(3, 0, 0), -13);
        due.is("it is there", x.lose(3), 1);
        due.is("fault stays with lose", x.fault(), 3);
        due.is("it was nothing", x.lose(3), 0);
        due.is("lose 4", x.lose(4), -1);
        due.is("lose -1", x.lose(-1), -1);
        due.is("nothing", x.put(3, 0, 0), -11);
        due.is("nothing", x.fault(), 1);
        due.is("others stay", x.lose(0), 1);
    }

    private static void cells() {
        AreaOrders x = new AreaOrders();
        int[] puts = {127, 128, -129, 32767, 32768, 65535, Integer.MIN_VALUE, Integer.MAX_VALUE};
        for (int lane = 0; lane < 3; lane++) {
            x.sheet(lane, lane, 3);
            for (int v : puts) {
                due.is("put", x.put(lane, 2, v), 1);
                long want = lane == 0 ? (byte) v : lane == 1 ? (short) v : v;
                due.is("cell of lane " + lane, x.cell(lane, 2, lane), want);
            }
            due.is("another lane", x.cell(lane, 9, (lane + 1) % 3), AreaOrders.LOST);
            due.is("cast, ahead of index", x.fault(), 2);
        }
        due.is("cell 3", x.cell(0, 3, 0), AreaOrders.LOST);
        due.is("index", x.fault(), 3);
        due.is("cell -1", x.cell(0, -1, 0), AreaOrders.LOST);
        due.is("index", x.fault(), 3);
        due.is("nothing is no cast", x.cell(3, 0, 0), AreaOrders.LOST);
        due.is("nothing", x.fault(), 1);
        due.is("lane 3", x.cell(3, 0, 3), AreaOrders.LOST);
        due.is("refused", x.fault(), 0);
        x.cell(3, 0, 0);
        due.is("sheet 4", x.cell(4, 0, 0), AreaOrders.LOST);
        due.is("refused", x.fault(), 0);
        due.is("put in cell 3", x.put(0, 3, 1), -13);
        due.is("put in cell -1", x.put(0, -1, 1), -13);
        due.is("index", x.fault(), 3);
        due.is("put in sheet 4", x.put(4, 0, 1), -1);
        due.is("put in sheet -1", x.put(-1, 0, 1), -1);
        due.is("refused", x.fault(), 0);
        x.lose(0);
        x.cell(0, 0, 0);
        due.is("cell", x.cell(1, 0, 1), 0);
        due.is("no fault", x.fault(), 0);
    }

    private static void are(AreaOrders x, int k, int lane, int... want) {
        for (int i = 0; i < want.length; i++) {
            due.is("cell " + i, x.cell(k, i, lane), want[i]);
        }
    }

    private static void copies() {
        AreaOrders x = new AreaOrders();
        Due.fill(x, 0, 1, 1, 2, 3, 4, 5);
        Due.fill(x, 1, 1, 9, 9, 9);
        due.is("copy", x.copy(0, 2, 1, 0, 3), 3);
        are(x, 1, 1, 3, 4, 5);
        due.is("onto itself, up", x.copy(0, 0, 0, 1, 4), 4);
        are(x, 0, 1, 1, 1, 2, 3, 4);
        due.is("onto itself, down", x.copy(0, 1, 0, 0, 4), 4);
        are(x, 0, 1, 1, 2, 3, 4, 4);
        due.is("none at the ends", x.copy(0, 5, 1, 3, 0), 0);
        due.is("no fault", x.fault(), 0);
    }

    private static void copiesRefused() {
        AreaOrders x = new AreaOrders();
        Due.fill(x, 0, 1, 1, 2, 3, 4, 5);
        Due.fill(x, 1, 1, 9, 9, 9);
        Due.fill(x, 2, 2, 9, 9, 9);
        due.is("sheet 4", x.copy(4, 0, 3, 0, 1), -1);
        due.is("other 4, ahead of nothing", x.copy(3, 0, 4, 0, 1), -1);
        due.is("sheet -1", x.copy(-1, 0, 0, 0, 1), -1);
        due.is("other -1", x.copy(0, 0, -1, 0, 1), -1);
        due.is("nothing", x.copy(3, 0, 0, 0, 1), -11);
        due.is("nothing there", x.copy(0, 0, 3, 0, 1), -11);
        due.is("nothing twice", x.copy(3, 0, 3, 0, 0), -11);
        due.is("nothing", x.fault(), 1);
        due.is("unlike lanes, ahead of index", x.copy(0, -1, 2, 0, 1), -12);
        due.is("unlike lanes, none taken", x.copy(0, 0, 2, 0, 0), -12);
        due.is("cast", x.fault(), 2);
        int[][] outs = {{-1, 0, 1}, {0, -1, 1}, {0, 0, -1}, {5, 0, 1}, {0, 3, 1}, {0, 0, 4}, {3, 0, 3}, {0, 1, 3},
            {6, 0, 0}, {0, 4, 0}, {-1, 0, 0}, {0, -1, 0}, {1, 0, Integer.MAX_VALUE}, {Integer.MAX_VALUE, 0, 1},
            {0, Integer.MAX_VALUE, 1}, {0, 0, Integer.MIN_VALUE}};
        for (int[] out : outs) {
            due.is("index", x.copy(0, out[0], 1, out[1], out[2]), -13);
            due.is("index", x.fault(), 3);
        }
        are(x, 1, 1, 9, 9, 9);
        x.copy(4, 0, 0, 0, 0);
        due.is("refused", x.fault(), 0);
    }
}
