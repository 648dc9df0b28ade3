/** Promise 11: reached. */
public final class Promise11ReachedTest {
    private static final Due due = new Due("Promise11ReachedTest");

    public static void main(String[] args) {
        pocket();
        steppedPocket();
        keptCells();
        heights();
        edge();
        due.index("reached(-1)", () -> new RouterPaths(4).reached(-1));
        due.index("reached(4)", () -> new RouterPaths(4).reached(4));
        due.index("reached(greatest)", () -> new RouterPaths(4).reached(Integer.MAX_VALUE));
        due.end();
    }

    private static RouterPaths withTools(int side) {
        RouterPaths r = new RouterPaths(side);
        r.tool(1, 1, 1);
        r.tool(2, 2, 1);
        r.tool(3, 6, 1);
        return r;
    }

    private static void isReached(RouterPaths r, int... want) {
        for (int t = 0; t < 4; t++) {
            due.is("reached(" + t + ")", r.reached(t), want[t]);
        }
    }

    /** A pocket of 5 by 5: a plus leaves the corners, a disc of 13 in the middle alone leaves 12. */
    private static void pocket() {
        RouterPaths r = withTools(12);
        isReached(r, 0, 0, 0, 0);
        r.target(3, 3, 7, 7, 20);
        isReached(r, 25, 21, 13, 0);
    }

    /** A deeper cell may not be reached where a higher one is in the disc; the other way round it may. */
    private static void steppedPocket() {
        RouterPaths r = withTools(12);
        r.target(3, 3, 7, 7, 20);
        r.target(5, 5, 5, 5, 10);
        isReached(r, 25, 20, 12, 0);
        r.target(5, 5, 5, 5, 30);
        // four pluses beside the middle, which share four cells, and the middle itself
        isReached(r, 25, 17, 1, 0);
    }

    private static void keptCells() {
        RouterPaths r = withTools(12);
        r.target(3, 3, 7, 7, 20);
        r.keep(5, 5, 5, 5, true);
        isReached(r, 24, 16, 0, 0);
        r.keep(0, 0, 11, 11, true);
        isReached(r, 0, 0, 0, 0);
        r.keep(3, 3, 7, 7, false);
        isReached(r, 25, 21, 13, 0);
    }

    /** A cell that is not LEFT does not count, but its TARGET still bars. */
    private static void heights() {
        RouterPaths r = withTools(12);
        r.target(3, 3, 7, 7, 20);
        due.is("run", Due.running(r, "G0X5Y5;G1Z20;"), 0);
        isReached(r, 24, 20, 12, 0);
        due.is("run", Due.running(r, "G0X2Y5;G1Z0;"), 0);
        isReached(r, 24, 20, 12, 0);
        r.blank();
        isReached(r, 25, 21, 13, 0);
        r.keep(5, 5, 5, 5, true);
        r.target(0, 0, 11, 11, 100);
        isReached(r, 0, 0, 0, 0);
    }

    /** The disc ends at the grid's edge, its middle stays on the grid. */
    private static void edge() {
        int[][] ends = {{11, 5}, {0, 5}, {5, 11}, {5, 0}, {11, 11}, {0, 0}};
        for (int[] end : ends) {
            RouterPaths notch = withTools(12);
            notch.target(end[0], end[1], end[0], end[1], 0);
            isReached(notch, 1, 0, 0, 0);
        }
        RouterPaths r = withTools(12);
        r.target(0, 0, 1, 1, 0);
        isReached(r, 4, 3, 0, 0);
        r.target(0, 0, 11, 11, 0);
        isReached(r, 144, 144, 144, 144);
        r.target(11, 11, 11, 11, 100);
        isReached(r, 143, 143, 143, 143);
        RouterPaths small = withTools(4);
        small.target(0, 0, 3, 3, 0);
        small.target(3, 3, 3, 3, 1);
        // the widest tool has the whole grid below it, so it reaches the highest cell alone
        isReached(small, 16, 16, 16, 1);
        small.target(3, 3, 3, 3, 100);
        isReached(small, 15, 15, 15, 0);
    }
}
