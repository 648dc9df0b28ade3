/** Promise 12: pieces. */
public final class Promise12PiecesTest {
    private static final Due due = new Due("Promise12PiecesTest");

    public static void main(String[] args) {
        RouterPaths r = new RouterPaths(5);
        due.is("at first", r.pieces(), 1);
        due.is("run", Due.running(r, "G0X2;G1Z1;G1Y4;"), 0);
        due.is("a height of 1 still holds", r.pieces(), 1);
        due.is("run", Due.running(r, "G0X2;G1Z0;G1Y4;"), 0);
        due.is("two halves", r.pieces(), 2);
        due.is("asked again", r.pieces(), 2);
        due.is("run", Due.running(r, "G0Y2;G1Z0;G1X4;"), 0);
        due.is("four quarters", r.pieces(), 4);
        r.keep(0, 0, 1, 1, true);
        r.target(0, 0, 4, 4, 0);
        due.is("targets and kept cells don't matter", r.pieces(), 4);
        r.blank();
        due.is("blank", r.pieces(), 1);
        bends();
        corners();
        winding();
        nothing();
        due.end();
    }

    /** Each of the four leaves three cells that hang together round another bend. */
    private static void bends() {
        String[] moves = {"G1Z0;", "G0X1;G1Z0;", "G0Y1;G1Z0;", "G0X1Y1;G1Z0;"};
        for (String move : moves) {
            RouterPaths r = new RouterPaths(2);
            due.is("run", Due.running(r, move), 0);
            due.is("a bend", r.pieces(), 1);
        }
    }

    /** Cells that meet at a corner alone don't hang together. */
    private static void corners() {
        RouterPaths r = new RouterPaths(2);
        due.is("run", Due.running(r, "G1Z0;G1Z100;G0X1Y1;G1Z0;"), 0);
        due.is("two corners", r.pieces(), 2);
        RouterPaths board = new RouterPaths(4);
        due.is("run", Due.running(board, "G1Z0;G1X1Y1;G1X2Y0;G1X3Y1;G1X2Y2;G1X3Y3;G0Z100;G0X1;G1Z0;G1X0Y2;"), 0);
        due.is("chequered", board.pieces(), 8);
    }

    /** One piece that winds from end to end of the grid, as far as a piece can. */
    private static void winding() {
        RouterPaths r = new RouterPaths(20);
        for (int x = 1; x < 20; x += 4) {
            due.is("run", Due.running(r, "G0X" + x + ";G1Z0;G1Y18;"), 0);
        }
        for (int x = 3; x < 20; x += 4) {
            due.is("run", Due.running(r, "G0X" + x + "Y1;G1Z0;G1Y19;"), 0);
        }
        due.is("winding", r.pieces(), 1);
        due.is("run", Due.running(r, "G0X10Y10;G1Z0;"), 0);
        due.is("cut in two", r.pieces(), 2);
    }

    private static void nothing() {
        RouterPaths r = new RouterPaths(4);
        r.tool(0, 6, 1);
        due.is("run", Due.running(r, "G1Z0;"), 0);
        due.is("nothing is left", r.pieces(), 0);
    }
}
