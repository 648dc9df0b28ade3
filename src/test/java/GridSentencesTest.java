/** The sentences about the grid, what is LEFT, DEEP, REACHED and the PIECES, each by itself; the words stand above their test. */
public final class GridSentencesTest {
    private static final Due due = new Due("GridSentencesTest");
    private static final int[] LEVELS = {0, 1, 2, 50, 98, 99, 100};

    public static void main(String[] args) {
        sideIsTheNearest();
        xToTheRightYDown();
        targetsBothIn();
        keptOrNot();
        targets0To100();
        leftAndDeep();
        theFirstByYThenX();
        toolsAtFirst();
        reachedBarredByAHigherTarget();
        reachedNotBarredByAnEqualOrLowerTarget();
        reachedBarredByAKeptCell();
        reachedByPlacesOnTheGridAlone();
        reachedOnlyIfLeft();
        piecesAbove0();
        piecesBySidesAlone();
        piecesAskedAgain();
        blankHeightsAlone();
        due.end();
    }

    /** "SIDE the nearest of 2 .. 20". */
    private static void sideIsTheNearest() {
        for (int asked = -4; asked <= 45; asked++) {
            isSide(asked, asked < 2 ? 2 : asked > 20 ? 20 : asked);
        }
        for (int far : new int[] {Integer.MIN_VALUE, Integer.MIN_VALUE + 1, -65536, -256}) {
            isSide(far, 2);
        }
        for (int far : new int[] {255, 258, 65538, Integer.MAX_VALUE - 1, Integer.MAX_VALUE}) {
            isSide(far, 20);
        }
    }

    private static void isSide(int asked, int side) {
        RouterPaths r = new RouterPaths(asked);
        String name = "RouterPaths(" + asked + ")";
        due.is(name + ", last cell", r.cell(side - 1, side - 1, 0), 100);
        due.index(name + ", x beyond", () -> r.cell(side, 0, 0));
        due.index(name + ", y beyond", () -> r.cell(0, side, 0));
        r.target(0, 0, side - 1, side - 1, 0);
        due.is(name + ", cells", r.check(0), side * side);
        due.is(name + ", X of the last column", Due.reading(r, "G1X" + (side - 1) + ";"), 1);
        due.is(name + ", X beyond", Due.reading(r, "G1X" + side + ";"), -4);
        due.is(name + ", Y beyond", Due.reading(r, "G1Y" + side + ";"), -4);
    }

    /** "(x to the right, y down)", "as SIDE * y + x". */
    private static void xToTheRightYDown() {
        for (int c = 0; c < 35; c++) {
            RouterPaths r = new RouterPaths(7);
            int x = c % 7;
            int y = c / 7;
            r.target(x, y, x, y, 50);
            due.is("first left", r.check(2), 7 * y + x);
            due.is("run", Due.running(r, "G0X" + x + "Y" + y + ";G1Z49;"), 0);
            due.is("first deep", r.check(3), 7 * y + x);
            due.is("its height", r.cell(x, y, 0), 49);
            due.is("its target", r.cell(x, y, 1), 50);
        }
    }

    private static boolean within(int x, int y, int[] block) {
        return x >= block[0] && x <= block[2] && y >= block[1] && y <= block[3];
    }

    /** "TARGET of all cells from x0, y0 to x1, y1 (both in)": each block of a grid, single cells and the whole of it too. */
    private static void targetsBothIn() {
        for (int code = 0; code < 256; code++) {
            int[] block = {code % 4, code / 4 % 4, code / 16 % 4, code / 64};
            if (block[2] < block[0] || block[3] < block[1]) {
                continue;
            }
            RouterPaths r = new RouterPaths(4);
            r.target(block[0], block[1], block[2], block[3], 30);
            for (int c = 0; c < 16; c++) {
                due.is("target of " + c, r.cell(c % 4, c / 4, 1), within(c % 4, c / 4, block) ? 30 : 100);
                due.is("height of " + c, r.cell(c % 4, c / 4, 0), 100);
                due.is("kept of " + c, r.cell(c % 4, c / 4, 2), 0);
            }
        }
    }

    /** "Cells are KEPT, or not": each block put on, and taken off a grid that is kept. */
    private static void keptOrNot() {
        for (int code = 0; code < 512; code++) {
            int[] block = {code % 4, code / 4 % 4, code / 16 % 4, code / 64 % 4};
            if (block[2] < block[0] || block[3] < block[1]) {
                continue;
            }
            boolean on = code < 256;
            RouterPaths r = new RouterPaths(4);
            r.keep(0, 0, 3, 3, !on);
            r.keep(block[0], block[1], block[2], block[3], on);
            r.keep(block[0], block[1], block[2], block[3], on);
            for (int c = 0; c < 16; c++) {
                due.is("kept of " + c, r.cell(c % 4, c / 4, 2), within(c % 4, c / 4, block) == on ? 1 : 0);
                due.is("height of " + c, r.cell(c % 4, c / 4, 0), 100);
                due.is("target of " + c, r.cell(c % 4, c / 4, 1), 100);
            }
        }
    }

    /** "both 0 .. 100", "height not 0 .. 100". */
    private static void targets0To100() {
        RouterPaths r = new RouterPaths(3);
        for (int h = 0; h <= 100; h++) {
            r.target(1, 1, 1, 1, h);
            due.is("target " + h, r.cell(1, 1, 1), h);
        }
        r.target(1, 1, 1, 1, 42);
        for (int h : new int[] {Integer.MIN_VALUE, -100, -1, 101, 102, 255, 256, 65536 + 50, Integer.MAX_VALUE}) {
            due.argument("target " + h, () -> r.target(1, 1, 1, 1, h));
        }
        due.is("the target stays", r.cell(1, 1, 1), 42);
    }

    /** "LEFT are cells whose HEIGHT is above TARGET, DEEP those below": equal is neither. */
    private static void leftAndDeep() {
        for (int height : LEVELS) {
            for (int target : LEVELS) {
                RouterPaths r = new RouterPaths(3);
                r.target(2, 1, 2, 1, target);
                due.is("run", Due.running(r, "G0X2Y1;G1Z" + height + ";"), 0);
                boolean left = height > target;
                boolean deep = height < target;
                String name = "height " + height + ", target " + target;
                due.is(name + ", left", r.check(0), left ? 1 : 0);
                due.is(name + ", deep", r.check(1), deep ? 1 : 0);
                due.is(name + ", first left", r.check(2), left ? 5 : RouterPaths.NONE);
                due.is(name + ", first deep", r.check(3), deep ? 5 : RouterPaths.NONE);
                due.is(name + ", reached", r.reached(0), left ? 1 : 0);
            }
        }
    }

    /** "the first LEFT one, by y, then x": each pair of cells. */
    private static void theFirstByYThenX() {
        for (int a = 0; a < 25; a++) {
            for (int b = 0; b < 25; b++) {
                RouterPaths r = new RouterPaths(5);
                r.target(a % 5, a / 5, a % 5, a / 5, 10);
                r.target(b % 5, b / 5, b % 5, b / 5, 20);
                due.is("left", r.check(0), a == b ? 1 : 2);
                due.is("first left of " + a + " and " + b, r.check(2), Math.min(a, b));
                r.target(0, 0, 4, 4, 100);
                due.is("run", Due.running(r, "G0X" + a % 5 + "Y" + a / 5 + ";G1Z99;G1Z100;G0X" + b % 5 + "Y" + b / 5 + ";G1Z98;"), 0);
                due.is("deep", r.check(1), a == b ? 1 : 2);
                due.is("first deep of " + a + " and " + b, r.check(3), Math.min(a, b));
            }
        }
    }

    /** "TOOLS 0 .. 3 have a RADIUS r 0 .. 6 (0 at first) and a FEED 1 .. 10 (1)". */
    private static void toolsAtFirst() {
        for (int t = 0; t < 4; t++) {
            int chosen = t;
            RouterPaths r = new RouterPaths(20);
            due.is("run", Due.running(r, "T" + t + ";G1X5Y5Z99;"), 0);
            due.is("time at first", r.about(0), 10 + 5);
            due.is("cut at first", r.about(5), 3);
            for (int bad : new int[] {Integer.MIN_VALUE, -1, 7, 8, 256, Integer.MAX_VALUE}) {
                due.argument("radius " + bad, () -> r.tool(chosen, bad, 1));
            }
            for (int bad : new int[] {Integer.MIN_VALUE, -1, 0, 11, 257, Integer.MAX_VALUE}) {
                due.argument("feed " + bad, () -> r.tool(chosen, 0, bad));
            }
            r.blank();
            due.is("run", r.run(), 0);
            due.is("time as at first", r.about(0), 10 + 5);
            due.is("cut as at first", r.about(5), 3);
            for (int other = 0; other < 4; other++) {
                if (other != t) {
                    r.tool(other, 6, 10);
                }
            }
            r.blank();
            due.is("run", r.run(), 0);
            due.is("time, the other tools' set", r.about(0), 10 + 5);
            due.is("cut, the other tools' set", r.about(5), 3);
        }
    }

    private static void isReachedAsByModel(String name, Model model, RouterPaths r) {
        for (int radius = 0; radius <= 6; radius++) {
            model.tool(2, radius, 1);
            r.tool(2, radius, 1);
            due.is(name + ", radius " + radius, r.reached(2), model.reached(2));
        }
    }

    /** "no cell with a TARGET above the cell's TARGET": one higher cell in each place. */
    private static void reachedBarredByAHigherTarget() {
        for (int c = 0; c < 81; c++) {
            RouterPaths r = new RouterPaths(9);
            Model model = new Model(9);
            r.target(0, 0, 8, 8, 40);
            model.target(0, 0, 8, 8, 40);
            r.target(c % 9, c / 9, c % 9, c / 9, 41);
            model.target(c % 9, c / 9, c % 9, c / 9, 41);
            isReachedAsByModel("higher at " + c, model, r);
        }
        RouterPaths r = new RouterPaths(9);
        r.tool(0, 5, 1);
        r.target(0, 0, 8, 8, 40);
        r.target(4, 4, 4, 4, 41);
        // only the corners are more than 5 from the middle: their four discs, and the middle itself
        due.is("round the middle", r.reached(0), cellsNearCorners() + 1);
    }

    /** The cells, but the middle, that a disc of 5 has round a place that is more than 5 from the middle. */
    private static int cellsNearCorners() {
        int count = 0;
        for (int c = 0; c < 81; c++) {
            boolean near = false;
            for (int p = 0; p < 81; p++) {
                near |= distance(p, 40) > 25 && distance(p, c) <= 25;
            }
            count += near && c != 40 ? 1 : 0;
        }
        return count;
    }

    private static int distance(int a, int b) {
        int dx = a % 9 - b % 9;
        int dy = a / 9 - b / 9;
        return dx * dx + dy * dy;
    }

    /** One that is equal does not bar, a lower one does not either. */
    private static void reachedNotBarredByAnEqualOrLowerTarget() {
        RouterPaths r = new RouterPaths(9);
        r.tool(1, 6, 1);
        r.target(0, 0, 8, 8, 40);
        due.is("all are equal", r.reached(1), 81);
        r.target(4, 4, 4, 4, 39);
        due.is("one is lower: it alone is barred, by all", r.reached(1), 80);
        r.target(4, 4, 4, 4, 40);
        due.is("equal again", r.reached(1), 81);
        r.target(0, 0, 8, 8, 100);
        due.is("level with the board, none is left", r.reached(1), 0);
        r.target(0, 0, 8, 8, 0);
        due.is("the least target", r.reached(1), 81);
    }

    /** "and none that is KEPT": one kept cell in each place, whatever its HEIGHT and TARGET. */
    private static void reachedBarredByAKeptCell() {
        for (int c = 0; c < 81; c++) {
            RouterPaths r = new RouterPaths(9);
            Model model = new Model(9);
            r.target(0, 0, 8, 8, 40);
            model.target(0, 0, 8, 8, 40);
            due.is("run", Due.running(r, "G0X" + c % 9 + "Y" + c / 9 + ";G1Z0;"), 0);
            model.height[c % 9][c / 9] = 0;
            r.target(c % 9, c / 9, c % 9, c / 9, 0);
            model.target(c % 9, c / 9, c % 9, c / 9, 0);
            isReachedAsByModel("low at " + c, model, r);
            r.keep(c % 9, c / 9, c % 9, c / 9, true);
            model.keep(c % 9, c / 9, c % 9, c / 9, true);
            isReachedAsByModel("low and kept at " + c, model, r);
        }
        RouterPaths r = new RouterPaths(9);
        r.target(0, 0, 8, 8, 40);
        r.keep(3, 3, 3, 3, true);
        due.is("the kept cell itself is left, but not reached", r.reached(0), 80);
        due.is("left", r.check(0), 81);
        r.keep(3, 3, 3, 3, false);
        due.is("no more kept", r.reached(0), 81);
    }

    /** "if there is a place x, y on the grid whose DISC has it": a place beyond the edge would do, but is none. */
    private static void reachedByPlacesOnTheGridAlone() {
        for (int p = 0; p < 9; p++) {
            int[][] ends = {{0, p}, {8, p}, {p, 0}, {p, 8}};
            for (int[] end : ends) {
                RouterPaths r = new RouterPaths(9);
                r.target(end[0], end[1], end[0], end[1], 40);
                due.is("radius 0", r.reached(0), 1);
                for (int radius = 1; radius <= 6; radius++) {
                    r.tool(0, radius, 1);
                    due.is("radius " + radius + " at " + end[0] + " " + end[1], r.reached(0), 0);
                }
            }
        }
        RouterPaths strip = new RouterPaths(9);
        strip.tool(0, 1, 1);
        strip.target(0, 0, 8, 0, 40);
        due.is("a strip of one along the edge", strip.reached(0), 0);
        strip.target(0, 1, 8, 1, 40);
        due.is("a strip of two along the edge: discs on its outer row", strip.reached(0), 18);
    }

    /** "a cell that is LEFT". */
    private static void reachedOnlyIfLeft() {
        RouterPaths r = new RouterPaths(9);
        r.tool(1, 1, 1);
        r.target(3, 3, 5, 5, 40);
        due.is("a plus", r.reached(1), 5);
        due.is("all but the corners to 40", Due.running(r, "G0X4Y4;T1;G1Z40;"), 0);
        due.is("the corners are left, but not reached", r.reached(1), 0);
        due.is("left", r.check(0), 4);
        due.is("reached by a narrow tool", r.reached(0), 4);
        r.target(4, 4, 4, 4, 39);
        due.is("the middle is left, but barred", r.reached(1), 0);
        due.is("reached by a narrow tool", r.reached(0), 5);
        due.is("deeper than told", Due.running(r, "G0X4Y4;G1Z38;"), 0);
        due.is("deep is not left", r.reached(0), 4);
        r.blank();
        due.is("blank again, but the middle is lower", r.reached(1), 4);
    }

    /** "cells with a HEIGHT above 0". */
    private static void piecesAbove0() {
        for (int z = 0; z <= 3; z++) {
            RouterPaths r = new RouterPaths(3);
            due.is("run", Due.running(r, "G0X1;G1Z" + z + ";G1Y2;"), 0);
            due.is("a cut to " + z, r.pieces(), z == 0 ? 2 : 1);
        }
        for (int z = 0; z <= 3; z++) {
            RouterPaths r = new RouterPaths(20);
            r.tool(0, 6, 1);
            due.is("run", Due.running(r, "G1Z" + z + ";G1X19;G1Y10;G1X0;G1Y19;G1X19;"), 0);
            due.is("all to " + z, r.pieces(), z == 0 ? 0 : 1);
        }
        RouterPaths last = new RouterPaths(2);
        due.is("run", Due.running(last, "G1Z0;G1X1;G1Y1;"), 0);
        due.is("one cell", last.pieces(), 1);
        due.is("run", Due.running(last, "G1Z0;G1X1;G1Y1;G1X0;"), 0);
        due.is("no cell", last.pieces(), 0);
    }

    /** "that hang together by sides": a chequered board falls apart, and rows do not go on in the next row. */
    private static void piecesBySidesAlone() {
        StringBuilder text = new StringBuilder();
        RouterPaths chequered = new RouterPaths(10);
        for (int row = 0; row < 10; row += 2) {
            text.append("G0Y").append(row).append(";G1Z0;");
            for (int x = 1; x < 10; x++) {
                text.append("G1X").append(x).append('Y').append(row + x % 2).append(';');
            }
            due.is("run", Due.running(chequered, text.toString()), 0);
            text.setLength(0);
        }
        due.is("chequered", chequered.pieces(), 50);
        RouterPaths ends = new RouterPaths(4);
        due.is("the end of a row, the start of the next", Due.running(ends,
            "G1Z0;G1X2;G1Z1;G0Z100;G0X1Y1;G1Z0;G1X3;G1Y3;G1X0;G1Y2;G1X2;"), 0);
        due.is("end and start", ends.pieces(), 2);
        due.is("end", ends.cell(3, 0, 0), 100);
        due.is("start", ends.cell(0, 1, 0), 100);
        RouterPaths ring = new RouterPaths(5);
        due.is("run", Due.running(ring, "G0X1Y1;G1Z0;G1X3;G1Y3;G1X1;G1Y1;"), 0);
        due.is("a ring round a middle", ring.pieces(), 2);
    }

    /** Each question begins anew: one cell alone, in each place in turn, is a piece whenever it is asked for. */
    private static void piecesAskedAgain() {
        for (int alone = 0; alone < 4; alone++) {
            RouterPaths r = new RouterPaths(2);
            int x = alone % 2;
            int y = alone / 2;
            due.is("at first", r.pieces(), 1);
            due.is("two corners", Due.running(r, "G0X" + (1 - x) + "Y" + y + ";G1Z0;G1X" + x + "Y" + (1 - y) + ";"), 0);
            for (int again = 0; again < 3; again++) {
                due.is("two cells, asked " + again, r.pieces(), 2);
            }
            due.is("the other corner", Due.running(r, "G0X" + (1 - x) + "Y" + (1 - y) + ";G1Z0;"), 0);
            for (int again = 0; again < 3; again++) {
                due.is("the cell " + alone + " alone, asked " + again, r.pieces(), 1);
            }
            due.is("the last", Due.running(r, "G0X" + x + "Y" + y + ";G1Z0;"), 0);
            due.is("none", r.pieces(), 0);
            r.blank();
            due.is("blank", r.pieces(), 1);
        }
    }

    /** "All HEIGHTS are 100 again": nothing else changes, not even where nothing was cut. */
    private static void blankHeightsAlone() {
        RouterPaths r = new RouterPaths(4);
        r.blank();
        due.state("blank makes no program", r::run);
        due.state("blank is no run", () -> r.about(0));
        r.tool(1, 6, 2);
        r.target(0, 0, 3, 0, 10);
        r.keep(3, 3, 3, 3, true);
        due.is("a breach on the way", Due.running(r, "G1Z0;G1Z100;T1;G1X1;G1Z99;"), 2);
        due.yes("half a text", Due.type(r, "G0X"));
        r.blank();
        r.blank();
        for (int c = 0; c < 16; c++) {
            due.is("height of " + c, r.cell(c % 4, c / 4, 0), 100);
            due.is("target of " + c, r.cell(c % 4, c / 4, 1), c < 4 ? 10 : 100);
            due.is("kept of " + c, r.cell(c % 4, c / 4, 2), c == 15 ? 1 : 0);
        }
        due.is("the latest run stays", r.about(0), 100 + 100 + 10 + 2);
        due.is("its end stays", r.about(1), 4);
        due.is("the text stays", Due.reading(r, "3;"), 1);
        due.is("its program", r.run(), 0);
        due.is("x", r.about(2), 3);
    }
}
