/** The sentences of "Terms" about RUN, and of the promises 7 and 8, each by itself; the words stand above their test. */
public final class RunSentencesTest {
    private static final Due due = new Due("RunSentencesTest");

    public static void main(String[] args) {
        theDisc();
        theDiscOnEdges();
        beginsAtTheCornerWithTool0();
        heightsStay();
        whatIsNotToldStays();
        greatestOfThreeDifferences();
        placesOfSteps();
        noDifferenceNoStep();
        aboveZ();
        ofG0NothingIsCut();
        crashByTheDiscsRim();
        breachByTheDiscsRim();
        onlyCellsThatWouldBeCut();
        bothEndAtOnce();
        atTheFirstStepAndAtTheLast();
        time();
        statementAtWhichItEnded();
        eachStepsByItself();
        thereWasNoRun();
        noProgram();
        due.end();
    }

    private static void isAbout(RouterPaths r, String name, int... want) {
        for (int what = 0; what < 6; what++) {
            due.is(name + ", about(" + what + ")", r.about(what), want[what]);
        }
    }

    private static boolean near(int dx, int dy, int radius) {
        return dx * dx + dy * dy <= radius * radius;
    }

    /** "all cells .. with dx * dx + dy * dy <= r * r": 5 * 5 is 3 * 3 + 4 * 4 as well, and in. */
    private static void theDisc() {
        for (int radius = 0; radius <= 6; radius++) {
            RouterPaths r = new RouterPaths(20);
            r.tool(0, radius, 1);
            due.is("run", Due.running(r, "G0X9Y10;G1Z99;"), 0);
            for (int y = 0; y < 20; y++) {
                for (int x = 0; x < 20; x++) {
                    boolean in = near(x - 9, y - 10, radius);
                    due.is("radius " + radius + ", cell " + x + " " + y, r.cell(x, y, 0), in ? 99 : 100);
                }
            }
        }
    }

    /** "on the grid": what would lie beyond an edge comes in nowhere else. */
    private static void theDiscOnEdges() {
        for (int side : new int[] {2, 3, 7, 13}) {
            for (int radius = 0; radius <= 6; radius++) {
                for (int c = 0; c < side * side; c += side == 13 ? 4 : 1) {
                    isDiscOnEdge(side, radius, c % side, c / side);
                }
            }
        }
    }

    private static void isDiscOnEdge(int side, int radius, int atX, int atY) {
        RouterPaths r = new RouterPaths(side);
        r.tool(0, radius, 1);
        due.is("run", Due.running(r, "G0X" + atX + "Y" + atY + ";G1Z99;"), 0);
        int size = 0;
        for (int y = 0; y < side; y++) {
            for (int x = 0; x < side; x++) {
                boolean in = near(x - atX, y - atY, radius);
                size += in ? 1 : 0;
                due.is("radius " + radius + " at " + atX + " " + atY + ", cell " + x + " " + y,
                    r.cell(x, y, 0), in ? 99 : 100);
            }
        }
        due.is("cut by radius " + radius + " at " + atX + " " + atY, r.about(5), size);
    }

    /** "the machine begins at x 0, y 0, z 100 with tool 0". */
    private static void beginsAtTheCornerWithTool0() {
        RouterPaths r = new RouterPaths(9);
        r.tool(3, 2, 10);
        due.is("elsewhere with another tool", Due.running(r, "T3;G0X5Y6;G1Z40;"), 0);
        isAbout(r, "elsewhere", 10 + 6 + 600, 3, 5, 6, 40, 13 * 60);
        due.is("no way to the beginning", Due.running(r, "G1X0Y0Z100;"), 0);
        isAbout(r, "at the beginning", 0, 1, 0, 0, 100, 0);
        due.is("one step", Due.running(r, "G1X1Y1Z99;"), 0);
        isAbout(r, "tool 0", 1, 1, 1, 1, 99, 1);
        due.is("run again", r.run(), 0);
        isAbout(r, "again", 1, 1, 1, 1, 99, 0);
        r.keep(0, 0, 0, 0, true);
        due.is("a run that breaks off", Due.running(r, "T3;G0X2;G1Z0;"), 2);
        due.is("the one behind it", Due.running(r, "G0X1;"), 0);
        isAbout(r, "behind a breach", 1, 1, 1, 0, 100, 0);
    }

    /** "(heights stay as they are)". */
    private static void heightsStay() {
        RouterPaths r = new RouterPaths(4);
        due.is("run", Due.running(r, "G1Z70;"), 0);
        due.is("another program", Due.running(r, "G0X2;G1Z60;"), 0);
        due.is("height of the first", r.cell(0, 0, 0), 70);
        due.is("height of the second", r.cell(2, 0, 0), 60);
        due.is("read alone", Due.reading(r, "G1X3;"), 1);
        due.is("height of the first", r.cell(0, 0, 0), 70);
        due.is("a higher way cuts nothing", r.run(), 0);
        due.is("height of the first", r.cell(0, 0, 0), 70);
        due.is("height of the second", r.cell(2, 0, 0), 60);
    }

    /** "A statement G goes from where it is to X, Y, Z (what is not told stays)". */
    private static void whatIsNotToldStays() {
        for (int told = 1; told < 8; told++) {
            RouterPaths r = new RouterPaths(9);
            boolean x = (told & 1) != 0;
            boolean y = (told & 2) != 0;
            boolean z = (told & 4) != 0;
            String move = "G1" + (x ? "X5" : "") + (y ? "Y0" : "") + (z ? "Z97" : "") + ";";
            due.is("run", Due.running(r, "G1X3Y4Z95;" + move), 0);
            due.is("x behind " + move, r.about(2), x ? 5 : 3);
            due.is("y behind " + move, r.about(3), y ? 0 : 4);
            due.is("z behind " + move, r.about(4), z ? 97 : 95);
            due.is("time of " + move, r.about(0), 5 + (y ? 4 : 2));
        }
    }

    /** A board of nothing, so that no place can crash. */
    private static RouterPaths hollow(int side) {
        RouterPaths r = new RouterPaths(side);
        r.tool(0, 6, 1);
        int far = side - 1;
        due.is("hollow", Due.running(r, "G1Z0;G1X" + far + ";G1Y" + far / 2 + ";G1X0;G1Y" + far + ";G1X" + far + ";"), 0);
        due.is("hollow", r.pieces(), 0);
        r.tool(0, 0, 1);
        return r;
    }

    /** "with n = the greatest size of the three differences". */
    private static void greatestOfThreeDifferences() {
        int[][] moves = {
            {19, 0, 100}, {0, 19, 100}, {0, 0, 0}, {19, 18, 99}, {18, 19, 99}, {5, 7, 92}, {5, 7, 93}, {5, 7, 94},
            {1, 0, 100}, {0, 1, 100}, {0, 0, 99}, {19, 19, 0},
        };
        for (int[] m : moves) {
            RouterPaths r = hollow(20);
            String there = "G0X" + m[0] + "Y" + m[1] + "Z" + m[2] + ";";
            int n = Math.max(Math.max(m[0], m[1]), 100 - m[2]);
            due.is("run", Due.running(r, there), 0);
            isAbout(r, there, n, 1, m[0], m[1], m[2], 0);
            due.is("and back, all differences below 0", Due.running(r, there + "G0X0Y0Z100;"), 0);
            isAbout(r, there + " and back", 2 * n, 2, 0, 0, 100, 0);
        }
    }

    /** FLOOR by its meaning, the greatest whole number that is not above. */
    private static int offset(int d, int i, int n) {
        int k = -200;
        while (2 * n * (k + 1) <= 2 * d * i + n) {
            k++;
        }
        return k;
    }

    /** "at steps i = 1 .. n it is at each place a + FLOOR((2 * d * i + n) / (2 * n))": the depth tells each cell's last step. */
    private static void placesOfSteps() {
        for (int from = 0; from < 20; from += 19) {
            for (int to = 0; to < 20; to++) {
                for (int n = 20; n <= 100; n += n < 44 ? 1 : 7) {
                    isLine('X', from, to, n);
                    isLine('Y', from, to, n);
                }
            }
        }
        for (int to = 31; to <= 69; to++) {
            isRamp(19, to - 50);
            isRamp(18, (to - 50) / 2);
        }
    }

    private static void isLine(char axis, int from, int to, int n) {
        RouterPaths r = new RouterPaths(20);
        String move = "G0" + axis + from + ";G1" + axis + to + "Z" + (100 - n) + ";";
        due.is("run", Due.running(r, move), 0);
        int[] want = new int[20];
        java.util.Arrays.fill(want, 100);
        for (int i = 1; i <= n; i++) {
            want[from + offset(to - from, i, n)] = 100 - i;
        }
        for (int p = 0; p < 20; p++) {
            due.is(move + " at " + p, axis == 'X' ? r.cell(p, 0, 0) : r.cell(0, p, 0), want[p]);
        }
        due.is(move + " cuts", r.about(5), n);
    }

    /** z goes by the same rule: each cell on the way keeps the z of the one step that came to it. */
    private static void isRamp(int n, int d) {
        RouterPaths r = new RouterPaths(20);
        String move = "G1Z50;G1X" + n + "Z" + (50 + d) + ";";
        due.is("run", Due.running(r, move), 0);
        for (int i = 1; i <= n; i++) {
            due.is(move + " at " + i, r.cell(i, 0, 0), 50 + offset(d, i, n));
        }
    }

    /** n is 0: there is no step, so nothing is cut, nothing crashes, and no time goes by. */
    private static void noDifferenceNoStep() {
        RouterPaths r = new RouterPaths(5);
        r.tool(0, 0, 9);
        r.tool(1, 2, 7);
        r.keep(2, 0, 2, 0, true);
        due.is("a wide tool in a narrow hole stands still", Due.running(r, "G1Z50;T1;G0Z50;G1X0Y0;G0X0Y0Z50;G1Z50;"), 0);
        isAbout(r, "stands still", 450 + 10, 6, 0, 0, 50, 50);
        due.is("deep", r.check(1), 1);
        due.is("the first step crashes", Due.running(r, "G0Z50;T1;G0Z50;G0Z51;"), 1);
        isAbout(r, "first step", 50 + 10, 3, 0, 0, 51, 0);
    }

    /** "each cell of THE DISC whose HEIGHT is above z gets z": a cell at z or below stays, and is not cut. */
    private static void aboveZ() {
        RouterPaths r = new RouterPaths(3);
        due.is("run", Due.running(r, "G1Z40;G0Z100;G0X1;G1Z41;G0Z100;G0X2;G1Z39;"), 0);
        r.tool(1, 6, 1);
        due.is("run", Due.running(r, "G1X1Z41;T1;G1Z40;"), 0);
        due.is("level", r.cell(0, 0, 0), 40);
        due.is("one above", r.cell(1, 0, 0), 40);
        due.is("one below", r.cell(2, 0, 0), 39);
        due.is("far above", r.cell(2, 2, 0), 40);
        due.is("cut", r.about(5), 7);
        due.is("down to 0", Due.running(r, "T1;G1Z0;"), 0);
        due.is("cut", r.about(5), 8 * 40 + 39);
        due.is("least height", r.cell(1, 1, 0), 0);
        due.is("at 0 nothing is above", Due.running(r, "T1;G1Z0;G1X2Y2;"), 0);
        due.is("cut", r.about(5), 0);
        due.is("least height stays", r.cell(1, 1, 0), 0);
    }

    /** "by G0 nothing is cut: if one of them is above z it is a CRASH": level with z is none. */
    private static void ofG0NothingIsCut() {
        RouterPaths r = new RouterPaths(4);
        r.tool(1, 6, 1);
        due.is("level with all cells", Due.running(r, "T1;G0X3Y3;G0X0Y0;"), 0);
        isAbout(r, "level", 16, 3, 0, 0, 100, 0);
        due.is("one below all cells", Due.running(r, "T1;G0Z99;"), 1);
        isAbout(r, "crash", 10, 1, 0, 0, 99, 0);
        due.is("deep", r.check(1), 0);
        due.is("all to 50 but one to 51", Due.running(r, "T1;G1Z51;T0;G1Z50;G1X3;G1Y1;G1X0;G1Y2;G1X3;G1Y3;G1X1;"), 0);
        due.is("one is above", Due.running(r, "T1;G0Z51;G0X3Z50;"), 1);
        due.is("none is above", Due.running(r, "G0X3Z51;T1;G1Z50;G0X0Y0;G0X3Y3;"), 0);
    }

    /** "if one of them is above z": one cell stands at each distance in turn, on the rim it counts, beyond it it does not. */
    private static void crashByTheDiscsRim() {
        for (int dx = 0; dx < 8; dx++) {
            for (int dy = 0; dy < 8; dy++) {
                RouterPaths r = lowBut(dx, dy);
                RouterPaths turned = lowBut(7 - dx, 7 - dy);
                for (int radius = 0; radius <= 6; radius++) {
                    r.tool(1, radius, 1);
                    turned.tool(1, radius, 1);
                    String name = "crash of radius " + radius + " by " + dx + " " + dy;
                    int want = near(dx, dy, radius) ? 1 : 0;
                    due.is(name, Due.running(r, "T1;G0Z99;"), want);
                    due.is(name + " turned", Due.running(turned, "G0X7Y7;T1;G0Z99;"), want);
                }
            }
        }
    }

    /** All cells but one are 99 high. */
    private static RouterPaths lowBut(int x, int y) {
        RouterPaths r = new RouterPaths(8);
        for (int row = 0; row < 8; row++) {
            String line = "Y" + row + ";G1Z99;G1X";
            if (row != y) {
                due.is("a row", Due.running(r, "G0X0" + line + "7;"), 0);
            }
            if (row == y && x > 0) {
                due.is("left of it", Due.running(r, "G0X0" + line + (x - 1) + ";"), 0);
            }
            if (row == y && x < 7) {
                due.is("right of it", Due.running(r, "G0X7" + line + (x + 1) + ";"), 0);
            }
        }
        due.is("cells below 100", r.check(1), 63);
        due.is("the one", r.cell(x, y, 0), 100);
        return r;
    }

    /** "If a cell that would be cut is KEPT it is a BREACH": on the rim it counts, beyond it it does not. */
    private static void breachByTheDiscsRim() {
        for (int radius = 0; radius <= 6; radius++) {
            for (int dx = -7; dx <= 7; dx++) {
                for (int dy = -7; dy <= 7; dy++) {
                    RouterPaths r = new RouterPaths(17);
                    r.tool(1, radius, 1);
                    r.keep(8 + dx, 8 + dy, 8 + dx, 8 + dy, true);
                    boolean in = near(dx, dy, radius);
                    due.is("breach of radius " + radius + " by " + dx + " " + dy,
                        Due.running(r, "T1;G0X8Y8;G1Z99;"), in ? 2 : 0);
                    due.is("height", r.cell(8, 8, 0), in ? 100 : 99);
                }
            }
        }
    }

    /** "If a cell that would be cut is KEPT": not one at z or below, and none of G0. */
    private static void onlyCellsThatWouldBeCut() {
        RouterPaths r = new RouterPaths(4);
        due.is("run", Due.running(r, "G1Z60;"), 0);
        r.keep(0, 0, 0, 0, true);
        r.tool(1, 1, 2);
        due.is("level with the kept cell", Due.running(r, "T1;G1Z60;"), 0);
        due.is("cells beside it are cut", r.cell(1, 0, 0), 60);
        due.is("above the kept cell", Due.running(r, "G1X3Z61;G1X0;"), 0);
        due.is("one below it", Due.running(r, "T1;G1Z59;"), 2);
        isAbout(r, "breach", 10 + 80, 1, 0, 0, 59, 0);
        due.is("the kept cell stays", r.cell(0, 0, 0), 60);
        r.keep(0, 0, 3, 3, true);
        due.is("G0 over kept cells", Due.running(r, "G0X3Y3;G0Y0;"), 0);
        due.is("G0 into a kept cell", Due.running(r, "G0X3Y3;G0Z99;"), 1);
        due.is("G1 over kept cells", Due.running(r, "T1;G1X3Y3;G1Y0;"), 0);
        due.is("G1 into a kept cell", Due.running(r, "G1X3Y3;G1Z99;"), 2);
        r.keep(3, 3, 3, 3, false);
        due.is("no more kept", r.run(), 0);
    }

    /** "both end RUN at once (what was cut stays, the step itself cuts nothing and takes no time)". */
    private static void bothEndAtOnce() {
        RouterPaths crash = new RouterPaths(6);
        crash.tool(1, 1, 5);
        due.is("crash", Due.running(crash, "T1;G1Z98;G0X5;T2;G1Z0;T2;"), 1);
        isAbout(crash, "crash", 10 + 10, 2, 1, 0, 98, 6);
        due.is("what was cut stays", crash.cell(0, 0, 0), 98);
        due.is("what was cut stays", crash.cell(1, 0, 0), 98);
        due.is("nothing behind it", crash.check(1), 3);
        RouterPaths breach = new RouterPaths(6);
        breach.tool(1, 1, 5);
        breach.keep(3, 1, 3, 1, true);
        due.is("breach", Due.running(breach, "T1;G1Z98;G1X5;T2;G0Z100;T2;"), 2);
        isAbout(breach, "breach", 10 + 10 + 10, 2, 3, 0, 98, 10);
        due.is("what was cut stays", breach.cell(3, 0, 0), 98);
        due.is("the step itself cuts nothing", breach.cell(4, 0, 0), 100);
        due.is("the kept cell stays", breach.cell(3, 1, 0), 100);
        due.is("nothing behind it", breach.check(1), 7);
    }

    private static void atTheFirstStepAndAtTheLast() {
        RouterPaths r = new RouterPaths(6);
        due.is("crash where z goes over", Due.running(r, "G0X5Y5Z99;"), 1);
        isAbout(r, "z goes over at step 3 of 5", 2, 0, 3, 3, 99, 0);
        due.is("crash at the very first step", Due.running(r, "G0Z0;"), 1);
        isAbout(r, "first step", 0, 0, 0, 0, 99, 0);
        r.keep(0, 0, 0, 0, true);
        due.is("breach at the very first step", Due.running(r, "G1Z0;"), 2);
        isAbout(r, "first step", 0, 0, 0, 0, 99, 0);
        r.keep(0, 0, 0, 0, false);
        r.keep(5, 0, 5, 0, true);
        due.is("breach at the last step", Due.running(r, "G1X4Z95;G1X5;"), 2);
        isAbout(r, "last step", 5, 1, 5, 0, 95, 5);
        r.blank();
        r.keep(5, 0, 5, 0, false);
        due.is("the same without it", r.run(), 0);
        isAbout(r, "no breach", 6, 2, 5, 0, 95, 6);
    }

    /** "TIME is 1 for each step of G0, FEED for each of G1, 10 for each T". */
    private static void time() {
        for (int t = 0; t < 4; t++) {
            RouterPaths r = hollow(6);
            for (int feed = 1; feed <= 10; feed++) {
                r.tool(t, 1, feed);
                due.is("run", Due.running(r, "T" + t + ";G0X5;"), 0);
                due.is("steps of G0 by feed " + feed, r.about(0), 10 + 5);
                due.is("run", Due.running(r, "T" + t + ";G1X5;"), 0);
                due.is("steps of G1 by feed " + feed + ", though nothing is cut", r.about(0), 10 + 5 * feed);
                due.is("cut", r.about(5), 0);
            }
        }
        RouterPaths r = new RouterPaths(6);
        due.is("only changes, to the same tool too", Due.running(r, "T0;T0;T3;"), 0);
        isAbout(r, "changes", 30, 3, 0, 0, 100, 0);
        due.is("the most changes", Due.running(r, "T1;".repeat(32)), 0);
        isAbout(r, "the most changes", 320, 32, 0, 0, 100, 0);
        r.tool(2, 0, 10);
        due.is("the longest way", Due.running(r, "T2;" + "G1Z0;G1Z100;".repeat(15) + "G1Z0;"), 0);
        isAbout(r, "the longest way", 10 + 31 * 1000, 32, 0, 0, 0, 100);
    }

    /** "the statement at which it ended, how many there are if it went through". */
    private static void statementAtWhichItEnded() {
        for (int before = 0; before < 32; before++) {
            RouterPaths r = new RouterPaths(6);
            due.is("crash", Due.running(r, "T0;".repeat(before) + "G0Z99;"), 1);
            isAbout(r, "crash at " + before, 10 * before, before, 0, 0, 99, 0);
            r.keep(0, 0, 0, 0, true);
            due.is("breach", Due.running(r, "T0;".repeat(before) + "G1Z99;"), 2);
            isAbout(r, "breach at " + before, 10 * before, before, 0, 0, 99, 0);
            due.is("through", Due.running(r, "T0;".repeat(before) + "G1Z100;"), 0);
            isAbout(r, "through " + (before + 1), 10 * before, before + 1, 0, 0, 100, 0);
        }
    }

    /** "how many cells were cut, each step's by itself": a cell counts again at each step that lowers it. */
    private static void eachStepsByItself() {
        RouterPaths r = new RouterPaths(5);
        r.tool(0, 1, 1);
        due.is("run", Due.running(r, "G1Z90;"), 0);
        due.is("three cells, ten times", r.about(5), 30);
        due.is("again", r.run(), 0);
        due.is("none is left to cut", r.about(5), 0);
        due.is("run", Due.running(r, "G1Z89;G1Z90;G1Z88;"), 0);
        due.is("lowered twice", r.about(5), 6);
        due.is("to and fro", Due.running(r, "G1X4Z88;G1X0;"), 0);
        r.blank();
        r.tool(0, 6, 1);
        due.is("all cells, a hundred times", Due.running(r, "G1X1Y1Z0;"), 0);
        due.is("cut", r.about(5), 2500);
    }

    /** "IllegalStateException: there was no RUN": one that threw was none. */
    private static void thereWasNoRun() {
        RouterPaths r = new RouterPaths(5);
        due.state("run()", r::run);
        due.state("read is no run", () -> r.about(0));
        due.is("read", Due.reading(r, "G0X1;"), 1);
        for (int what = 0; what < 6; what++) {
            int asked = what;
            due.state("about(" + what + ")", () -> r.about(asked));
        }
        due.is("run", r.run(), 0);
        isAbout(r, "a run", 1, 1, 1, 0, 100, 0);
        due.is("fault", Due.reading(r, "?"), -1);
        r.blank();
        isAbout(r, "the latest run", 1, 1, 1, 0, 100, 0);
    }

    /** "IllegalStateException: there is no PROGRAM". */
    private static void noProgram() {
        RouterPaths r = new RouterPaths(5);
        due.state("at first", r::run);
        due.yes("a text", Due.type(r, "G1Z99;"));
        due.state("a text that was not read", r::run);
        due.is("nothing is cut", r.cell(0, 0, 0), 100);
        due.is("the text stays", r.read(), 1);
        due.is("a program", r.run(), 0);
        due.is("it stays", r.run(), 0);
    }
}
