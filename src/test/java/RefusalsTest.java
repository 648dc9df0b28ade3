import java.util.ArrayList;
import java.util.List;

/**
 * "A call that throws changes nothing; of several exceptions the one named first is thrown": of two objects
 * with the same calls, one gets refused ones besides; behind them both answer alike in all that can be asked.
 */
public final class RefusalsTest {
    private static final Due due = new Due("RefusalsTest");
    private static final int SIDE = 5;
    private static final int[] NO_CELL = {Integer.MIN_VALUE, -1, SIDE, SIDE + 1, Integer.MAX_VALUE};
    private static final int[] NO_TOOL = {Integer.MIN_VALUE, -1, 4, 5, Integer.MAX_VALUE};
    private static final int[] NO_HEIGHT = {Integer.MIN_VALUE, -1, 101, Integer.MAX_VALUE};
    private static final int[] NO_RADIUS = {Integer.MIN_VALUE, -1, 7, Integer.MAX_VALUE};
    private static final int[] NO_FEED = {Integer.MIN_VALUE, -1, 0, 11, Integer.MAX_VALUE};

    private interface Refused {
        void on(RouterPaths r);
    }

    public static void main(String[] args) {
        for (int state = 0; state < 5; state++) {
            changesNothing(state, RefusalsTest::refusedTargets);
            changesNothing(state, RefusalsTest::refusedTargetsOfSeveral);
            changesNothing(state, RefusalsTest::refusedKeeps);
            changesNothing(state, RefusalsTest::refusedTools);
            changesNothing(state, RefusalsTest::refusedQuestions);
            changesNothing(state, RefusalsTest::refusedUnits);
        }
        changesNothing(0, RefusalsTest::refusedForWantOfAProgram);
        changesNothing(1, RefusalsTest::refusedForWantOfAProgram);
        changesNothing(0, RefusalsTest::refusedForWantOfARun);
        changesNothing(1, RefusalsTest::refusedForWantOfARun);
        changesNothing(2, RefusalsTest::refusedForWantOfARun);
        due.end();
    }

    /** 0 new; 1 half a text; 2 a program too; 3 a run too; 4 one that broke off. */
    private static RouterPaths in(int state) {
        RouterPaths r = new RouterPaths(SIDE);
        if (state == 0) {
            return r;
        }
        r.target(1, 0, 3, 3, 60);
        r.target(2, 2, 2, 2, 40);
        r.keep(4, 3, 4, 4, true);
        r.tool(0, 1, 2);
        r.tool(2, 2, 7);
        if (state >= 2) {
            due.is("read", Due.reading(r, state == 4 ? "G1X4Y4Z50;T2;" : "G1X1Y2Z50;G0Z100;T2;"), state == 4 ? 2 : 3);
        }
        if (state >= 3) {
            due.is("run", r.run(), state == 4 ? 2 : 0);
        }
        Due.type(r, "T2;G1Z7");
        return r;
    }

    private static void changesNothing(int state, Refused calls) {
        RouterPaths plain = in(state);
        RouterPaths tried = in(state);
        calls.on(tried);
        List<String> want = everything(plain);
        List<String> got = everything(tried);
        due.is("answers", got.size(), want.size());
        for (int i = 0; i < want.size(); i++) {
            due.yes("state " + state + ": " + want.get(i) + ", behind refused calls " + got.get(i), want.get(i).equals(got.get(i)));
        }
    }

    private static List<String> everything(RouterPaths r) {
        List<String> all = new ArrayList<>();
        askAbout(r, all);
        askCells(r, all);
        all.add("run " + answer(r::run));
        askAbout(r, all);
        all.add("heights " + heights(r));
        all.add("read " + Due.reading(r, "5;G1Z30;"));
        r.blank();
        all.add("run " + answer(r::run));
        askAbout(r, all);
        all.add("heights " + heights(r));
        return all;
    }

    private static void askAbout(RouterPaths r, List<String> all) {
        for (int what = 0; what < 6; what++) {
            int asked = what;
            all.add("about(" + what + ") " + answer(() -> r.about(asked)));
        }
    }

    private static void askCells(RouterPaths r, List<String> all) {
        for (int c = 0; c < 3 * SIDE * SIDE; c++) {
            int cell = c / 3;
            all.add("cell " + c + " " + r.cell(cell % SIDE, cell / SIDE, c % 3));
        }
        for (int what = 0; what < 4; what++) {
            all.add("check(" + what + ") " + r.check(what));
            all.add("reached(" + what + ") " + r.reached(what));
        }
        all.add("pieces() " + r.pieces());
    }

    private static String heights(RouterPaths r) {
        StringBuilder out = new StringBuilder();
        for (int c = 0; c < SIDE * SIDE; c++) {
            out.append(r.cell(c % SIDE, c / SIDE, 0)).append(' ');
        }
        return out.toString();
    }

    private static String answer(java.util.function.IntSupplier call) {
        try {
            return "" + call.getAsInt();
        } catch (IllegalStateException e) {
            return "throws.IllegalStateException";
        }
    }

    /** One thing wrong in each. */
    private static void refusedTargets(RouterPaths r) {
        for (int no : NO_CELL) {
            due.index("target, x0 " + no, () -> r.target(no, 1, 3, 3, 50));
            due.index("target, y0 " + no, () -> r.target(1, no, 3, 3, 50));
            due.index("target, x1 " + no, () -> r.target(1, 1, no, 3, 50));
            due.index("target, y1 " + no, () -> r.target(1, 1, 3, no, 50));
        }
        due.argument("target, x1 below x0", () -> r.target(3, 1, 2, 3, 50));
        due.argument("target, y1 below y0", () -> r.target(1, 3, 3, 2, 50));
        due.argument("target, x1 far below x0", () -> r.target(4, 0, 0, 4, 50));
        due.argument("target, y1 far below y0", () -> r.target(0, 4, 4, 0, 50));
        due.argument("target, both below", () -> r.target(4, 4, 0, 0, 50));
        for (int no : NO_HEIGHT) {
            due.argument("target, height " + no, () -> r.target(0, 0, 4, 4, no));
        }
    }

    /** IndexOutOfBoundsException is named first. */
    private static void refusedTargetsOfSeveral(RouterPaths r) {
        for (int no : NO_CELL) {
            due.index("target, x0 and order or height", () -> r.target(no, 3, 3, 1, 101));
            due.index("target, y0 and order or height", () -> r.target(3, no, 1, 3, -1));
            due.index("target, x1 and order or height", () -> r.target(1, 3, no, 1, 101));
            due.index("target, y1 and order or height", () -> r.target(3, 1, 1, no, -1));
            due.index("target, x0 and height", () -> r.target(no, 1, 3, 3, 101));
            due.index("target, y0 and height", () -> r.target(1, no, 3, 3, 101));
            due.index("target, x1 and height", () -> r.target(1, 1, no, 3, -1));
            due.index("target, y1 and height", () -> r.target(1, 1, 3, no, -1));
            due.index("target, no number is right", () -> r.target(no, no, no, no, no == SIDE ? 101 : no));
        }
        due.argument("target, order and height", () -> r.target(3, 3, 1, 1, 101));
    }

    private static void refusedKeeps(RouterPaths r) {
        for (int no : NO_CELL) {
            for (int on = 0; on < 2; on++) {
                boolean is = on == 1;
                due.index("keep, x0 " + no, () -> r.keep(no, 1, 3, 3, is));
                due.index("keep, y0 " + no, () -> r.keep(1, no, 3, 3, is));
                due.index("keep, x1 " + no, () -> r.keep(1, 1, no, 3, is));
                due.index("keep, y1 " + no, () -> r.keep(1, 1, 3, no, is));
                due.index("keep, x0 and order", () -> r.keep(no, 3, 3, 1, is));
                due.index("keep, y0 and order", () -> r.keep(3, no, 1, 3, is));
                due.index("keep, x1 and order", () -> r.keep(1, 3, no, 1, is));
                due.index("keep, y1 and order", () -> r.keep(3, 1, 1, no, is));
            }
        }
        due.argument("keep, x1 below x0", () -> r.keep(3, 1, 2, 3, true));
        due.argument("keep, y1 below y0", () -> r.keep(1, 3, 3, 2, true));
        due.argument("keep not, x1 below x0", () -> r.keep(4, 0, 0, 4, false));
        due.argument("keep not, y1 below y0", () -> r.keep(0, 4, 4, 0, false));
        due.argument("keep, both below", () -> r.keep(4, 4, 0, 0, true));
    }

    private static void refusedTools(RouterPaths r) {
        for (int no : NO_TOOL) {
            due.index("tool " + no, () -> r.tool(no, 3, 3));
            due.index("tool " + no + " and radius", () -> r.tool(no, 7, 3));
            due.index("tool " + no + " and feed", () -> r.tool(no, 3, 0));
            due.index("tool " + no + ", radius and feed", () -> r.tool(no, -1, 11));
        }
        for (int t = 0; t < 4; t++) {
            int chosen = t;
            for (int no : NO_RADIUS) {
                due.argument("tool " + t + ", radius " + no, () -> r.tool(chosen, no, 3));
            }
            for (int no : NO_FEED) {
                due.argument("tool " + t + ", feed " + no, () -> r.tool(chosen, 3, no));
            }
            due.argument("tool " + t + ", radius and feed", () -> r.tool(chosen, 7, 0));
        }
    }

    private static void refusedQuestions(RouterPaths r) {
        for (int no : NO_CELL) {
            due.index("cell, x " + no, () -> r.cell(no, 2, 0));
            due.index("cell, y " + no, () -> r.cell(2, no, 1));
            due.index("cell, x, y and what", () -> r.cell(no, no, 3));
        }
        for (int no : new int[] {Integer.MIN_VALUE, -1, 3, 4, Integer.MAX_VALUE}) {
            due.index("cell, what " + no, () -> r.cell(2, 2, no));
        }
        for (int no : new int[] {Integer.MIN_VALUE, -1, 4, 5, Integer.MAX_VALUE}) {
            due.index("check, what " + no, () -> r.check(no));
            due.index("reached, tool " + no, () -> r.reached(no));
        }
        // named before the IllegalStateException of an object without a run
        for (int no : new int[] {Integer.MIN_VALUE, -1, 6, 7, Integer.MAX_VALUE}) {
            due.index("about, what " + no, () -> r.about(no));
        }
    }

    /** These do not throw, but add nothing to the text either. */
    private static void refusedUnits(RouterPaths r) {
        for (int no : new int[] {Integer.MIN_VALUE, -84, -1, 0, 9, 10, 13, 31, 127, 128, 160, 256 + 59, Integer.MAX_VALUE}) {
            due.no("unit(" + no + ")", r.unit(no));
        }
    }

    private static void refusedForWantOfAProgram(RouterPaths r) {
        due.state("run()", r::run);
        due.state("run() again", r::run);
    }

    private static void refusedForWantOfARun(RouterPaths r) {
        for (int what = 0; what < 6; what++) {
            int asked = what;
            due.state("about(" + what + ")", () -> r.about(asked));
        }
    }
}
