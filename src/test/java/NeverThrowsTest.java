/** No call ever fails, for any arguments in any state. */
public final class NeverThrowsTest {
    private static final int[] ANY = {Integer.MIN_VALUE, Integer.MIN_VALUE + 1, -1000, -2, -1, 0, 1, 2, 3, 4, 5, 6, 9,
        10, 15, 20, 59, 60, 61, 1 << 30, Integer.MAX_VALUE - 1, Integer.MAX_VALUE};

    public static void main(String[] args) {
        String[] texts = {"", "m;p11,0,0", "m;d99;b18,10,01", "m;p11;b29;d38;p47;b56;d65,531024,240135"};
        for (String text : texts) {
            for (int k = 0; k < ANY.length; k++) {
                AreaOrders x = new AreaOrders();
                if (!text.isEmpty()) {
                    Due.read(x, text);
                }
                x.sheet(0, 0, 60);
                x.sheet(1, 1, 7);
                x.sheet(2, 2, 0);
                byTwos(x, ANY[k]);
                byMore(x, ANY[k]);
            }
        }
    }

    private static void byTwos(AreaOrders x, int a) {
        x.whole(a);
        x.squeeze(a);
        x.least(a);
        x.kinds(a);
        x.widths(a);
        x.tell(a);
        x.survey(a);
        x.many(a);
        x.back(a);
        for (int b : ANY) {
            x.ofArea(a, b);
            x.width(a, b);
            x.plot(a, b);
            x.turn(a, b);
            x.reading(a, b);
            x.as(a, b);
            x.odds(a, b);
        }
    }

    private static void byMore(AreaOrders x, int a) {
        for (int b : ANY) {
            for (int c : ANY) {
                for (int sheet = -1; sheet <= 4; sheet++) {
                    x.put(sheet, a, b);
                    x.cell(sheet, a, b);
                    x.map(sheet, sheet, a, b);
                    x.wishes(sheet, sheet, a, b);
                    x.day(sheet, sheet, a, b, c);
                    x.copy(sheet, a, sheet, b, c);
                    x.copy(0, a, sheet, b, c);
                }
                x.map(a, b, c, a);
                x.day(a, b, c, a, b);
                x.wishes(a, b, c, a);
                x.copy(a, b, c, a, b);
                x.put(a, b, c);
                x.cell(a, b, c);
            }
        }
        for (int b : ANY) {
            for (int c : ANY) {
                x.sheet(a, b, c);
            }
            x.lose(b);
        }
    }
}
