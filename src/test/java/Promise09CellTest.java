/** Promise 9: cell. */
public final class Promise09CellTest {
    private static final Due due = new Due("Promise09CellTest");

    public static void main(String[] args) {
        RouterPaths r = new RouterPaths(7);
        r.target(2, 5, 2, 5, 33);
        r.keep(5, 2, 5, 2, true);
        Due.running(r, "G0X6Y1;G1Z0;");
        for (int y = 0; y < 7; y++) {
            for (int x = 0; x < 7; x++) {
                due.is("height", r.cell(x, y, 0), x == 6 && y == 1 ? 0 : 100);
                due.is("target", r.cell(x, y, 1), x == 2 && y == 5 ? 33 : 100);
                due.is("kept", r.cell(x, y, 2), x == 5 && y == 2 ? 1 : 0);
            }
        }
        int[] beyond = {Integer.MIN_VALUE, -1, 7, 20, Integer.MAX_VALUE};
        for (int b : beyond) {
            due.index("cell(" + b + ", 0, 0)", () -> r.cell(b, 0, 0));
            due.index("cell(0, " + b + ", 0)", () -> r.cell(0, b, 0));
            due.index("cell(0, 0, " + b + ")", () -> r.cell(0, 0, b));
        }
        due.index("cell(0, 0, 3)", () -> r.cell(0, 0, 3));
        due.index("cell(-7, 1, 0)", () -> r.cell(-7, 1, 0));
        due.end();
    }
}
