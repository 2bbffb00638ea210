/** All that can be seen of an object, as a text; fault() isn't in it, as looking at cells changes it. */
final class Seen {
    private final AreaOrders x;
    private final StringBuilder text = new StringBuilder();

    private Seen(AreaOrders x) {
        this.x = x;
    }

    static String of(AreaOrders x) {
        Seen seen = new Seen(x);
        seen.map();
        for (int k = 0; k < 4; k++) {
            seen.sheet(k);
        }
        return seen.text.toString();
    }

    static String withoutSheets(AreaOrders x) {
        Seen seen = new Seen(x);
        seen.map();
        return seen.text.toString();
    }

    private void map() {
        numbers();
        int count = x.many(0);
        for (int a = 0; a < count; a++) {
            area(a);
        }
    }

    private void add(long number) {
        text.append(number).append(' ');
    }

    private void numbers() {
        add(x.trace());
        for (int what = 0; what <= 3; what++) {
            add(x.many(what));
        }
        add(x.whole(5));
        text.append("| ");
    }

    private void area(int a) {
        for (int what = 0; what <= 12; what++) {
            add(x.ofArea(a, what));
        }
        add(x.kinds(a));
        add(x.widths(a));
        text.append("| ");
    }

    private void sheet(int k) {
        for (int lane = 0; lane <= 2; lane++) {
            x.cell(k, -1, lane);
            // Of its own LANE it has the FAULT INDEX, of another one CAST.
            if (x.fault() == 3) {
                text.append("lane ").append(lane).append(": ");
                cells(k, lane);
            }
        }
        text.append("| ");
    }

    private void cells(int k, int lane) {
        for (int i = 0; i < 60; i++) {
            long cell = x.cell(k, i, lane);
            if (cell == AreaOrders.LOST) {
                break;
            }
            add(cell);
        }
    }
}
