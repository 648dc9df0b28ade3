/** Promise 2: target. */
public final class Promise02TargetTest {
    private static final Due due = new Due("Promise02TargetTest");

    public static void main(String[] args) {
        RouterPaths r = new RouterPaths(6);
        r.target(1, 2, 3, 4, 40);
        isBlock(r, 1, 2, 3, 4, 40, 100);
        r.target(0, 0, 5, 5, 0);
        isBlock(r, 0, 0, 5, 5, 0, 0);
        r.target(5, 0, 5, 0, 100);
        isBlock(r, 5, 0, 5, 0, 100, 0);
        refusals(r);
        isBlock(r, 5, 0, 5, 0, 100, 0);
        due.end();
    }

    private static void isBlock(RouterPaths r, int x0, int y0, int x1, int y1, int inside, int outside) {
        for (int y = 0; y < 6; y++) {
            for (int x = 0; x < 6; x++) {
                boolean in = x >= x0 && x <= x1 && y >= y0 && y <= y1;
                due.is("cell(" + x + ", " + y + ", 1)", r.cell(x, y, 1), in ? inside : outside);
                due.is("cell(" + x + ", " + y + ", 0)", r.cell(x, y, 0), 100);
                due.is("cell(" + x + ", " + y + ", 2)", r.cell(x, y, 2), 0);
            }
        }
    }

    private static void refusals(RouterPaths r) {
        due.index("x0 -1", () -> r.target(-1, 0, 1, 1, 50));
        due.index("y0 -1", () -> r.target(0, -1, 1, 1, 50));
        due.index("x1 6", () -> r.target(0, 0, 6, 1, 50));
        due.index("y1 6", () -> r.target(0, 0, 1, 6, 50));
        due.index("x0 6", () -> r.target(6, 0, 6, 1, 50));
        due.index("y0 6", () -> r.target(0, 6, 1, 6, 50));
        due.index("x1 -1", () -> r.target(0, 0, -1, 1, 50));
        due.index("y1 -1", () -> r.target(0, 0, 1, -1, 50));
        due.index("least", () -> r.target(Integer.MIN_VALUE, 0, 1, 1, 50));
        due.index("greatest", () -> r.target(0, 0, 1, Integer.MAX_VALUE, 50));
        due.argument("x1 below x0", () -> r.target(2, 0, 1, 1, 50));
        due.argument("y1 below y0", () -> r.target(0, 2, 1, 1, 50));
        due.argument("height -1", () -> r.target(0, 0, 1, 1, -1));
        due.argument("height 101", () -> r.target(0, 0, 1, 1, 101));
        due.argument("height least", () -> r.target(0, 0, 1, 1, Integer.MIN_VALUE));
        due.index("cell before height", () -> r.target(0, 0, 1, 6, 101));
        due.index("cell before order", () -> r.target(3, 0, 1, 6, 50));
    }
}
