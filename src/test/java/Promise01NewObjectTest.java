/** Promise 1: SIDE is the nearest of 2 .. 20; all else is as it is at first. */
public final class Promise01NewObjectTest {
    private static final Due due = new Due("Promise01NewObjectTest");

    public static void main(String[] args) {
        int[][] sides = {
            {Integer.MIN_VALUE, 2}, {-1, 2}, {0, 2}, {1, 2}, {2, 2}, {3, 3}, {8, 8},
            {19, 19}, {20, 20}, {21, 20}, {400, 20}, {Integer.MAX_VALUE, 20},
        };
        for (int[] pair : sides) {
            isFresh(pair[0], pair[1]);
        }
        toolsAtFirst();
        due.end();
    }

    private static void isFresh(int asked, int side) {
        String name = "RouterPaths(" + asked + ")";
        for (int what = 0; what < 3; what++) {
            isFreshCells(name, new RouterPaths(asked), side, what);
        }
        RouterPaths r = new RouterPaths(asked);
        due.index(name + " x beyond", () -> r.cell(side, 0, 0));
        due.index(name + " y beyond", () -> r.cell(0, side, 0));
        due.state(name + " run", r::run);
        due.state(name + " about", () -> r.about(0));
        due.is(name + " left", r.check(0), 0);
        due.is(name + " deep", r.check(1), 0);
        due.is(name + " first left", r.check(2), RouterPaths.NONE);
        due.is(name + " first deep", r.check(3), RouterPaths.NONE);
        due.is(name + " pieces", r.pieces(), 1);
        due.is(name + " text", r.read(), -1);
    }

    /** An object for each question, as 512 calls are promised of one. */
    private static void isFreshCells(String name, RouterPaths r, int side, int what) {
        for (int c = 0; c < side * side; c++) {
            due.is(name + " cell " + c + ", what " + what, r.cell(c % side, c / side, what), what == 2 ? 0 : 100);
        }
    }

    /** RADIUS 0 and FEED 1: each tool cuts the one cell below it, a unit of time a step. */
    private static void toolsAtFirst() {
        for (int t = 0; t < 4; t++) {
            RouterPaths r = new RouterPaths(5);
            due.is("run of tool " + t, Due.running(r, "T" + t + ";G1Z97;"), 0);
            due.is("time of tool " + t, r.about(0), 13);
            due.is("cut by tool " + t, r.about(5), 3);
            due.is("deep by tool " + t, r.check(1), 1);
            due.is("height by tool " + t, r.cell(0, 0, 0), 97);
        }
    }
}
