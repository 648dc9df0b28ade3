/** Promise 3: keep. */
public final class Promise03KeepTest {
    private static final Due due = new Due("Promise03KeepTest");

    public static void main(String[] args) {
        RouterPaths r = new RouterPaths(5);
        r.keep(0, 1, 4, 3, true);
        isKept(r, "0000011111111111111100000");
        r.keep(1, 2, 2, 4, false);
        isKept(r, "0000011111100111001100000");
        r.keep(4, 4, 4, 4, true);
        isKept(r, "0000011111100111001100001");
        r.keep(4, 4, 4, 4, true);
        refusals(r);
        isKept(r, "0000011111100111001100001");
        r.blank();
        isKept(r, "0000011111100111001100001");
        due.end();
    }

    private static void isKept(RouterPaths r, String bits) {
        for (int c = 0; c < 25; c++) {
            due.is("kept " + c, r.cell(c % 5, c / 5, 2), bits.charAt(c) - '0');
            due.is("height " + c, r.cell(c % 5, c / 5, 0), 100);
            due.is("target " + c, r.cell(c % 5, c / 5, 1), 100);
        }
    }

    private static void refusals(RouterPaths r) {
        due.index("x0 -1", () -> r.keep(-1, 0, 1, 1, true));
        due.index("y0 -1", () -> r.keep(0, -1, 1, 1, true));
        due.index("x1 5", () -> r.keep(0, 0, 5, 1, true));
        due.index("y1 5", () -> r.keep(0, 0, 1, 5, false));
        due.index("x0 5", () -> r.keep(5, 0, 1, 1, true));
        due.index("y0 5", () -> r.keep(0, 5, 1, 1, true));
        due.index("x1 -1", () -> r.keep(0, 0, -1, 1, true));
        due.index("y1 -1", () -> r.keep(0, 0, 1, -1, true));
        due.argument("x1 below x0", () -> r.keep(2, 0, 1, 4, true));
        due.argument("y1 below y0", () -> r.keep(0, 2, 4, 1, false));
    }
}
