/** What the tests share: counting answers that aren't as due, and filling SHEETS. */
final class Due {
    private int wrong;

    void is(String call, long got, long want) {
        if (got != want) {
            wrong++;
            if (wrong <= 40) {
                System.out.println(call + " answered " + got + ", due is " + want);
            }
        }
    }

    void holds(String what, boolean so) {
        is(what, so ? 1 : 0, 1);
    }

    /** Ends the test: with exit code 1, if an answer was not as due. */
    void end() {
        if (wrong != 0) {
            System.out.println(wrong + " answers are not as due");
            System.exit(1);
        }
    }

    static void fill(AreaOrders x, int sheet, int lane, int... cells) {
        x.sheet(sheet, lane, cells.length);
        for (int i = 0; i < cells.length; i++) {
            x.put(sheet, i, cells[i]);
        }
    }

    static int[] codes(String text) {
        int[] codes = new int[text.length()];
        for (int i = 0; i < codes.length; i++) {
            codes[i] = text.charAt(i);
        }
        return codes;
    }

    /** Has a TEXT read from SHEET 3. */
    static int read(AreaOrders x, String text) {
        fill(x, 3, 0, codes(text));
        return x.map(3, 0, 0, text.length());
    }

    static AreaOrders mapOf(String text) {
        AreaOrders x = new AreaOrders();
        if (read(x, text) < 1) {
            System.out.println("no map: " + text);
            System.exit(1);
        }
        return x;
    }
}
