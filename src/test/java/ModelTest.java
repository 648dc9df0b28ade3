import java.util.function.LongSupplier;

/** Runs of all the 512 calls that are promised of an object, each answer compared with the model's. */
public final class ModelTest {
    private static final Due due = new Due("ModelTest");
    private static final int RUNS = 4000;
    private static final int CALLS = 512;
    /** Kept for a look at many cells in the end. */
    private static final int LAST_LOOK = 80;
    private long seed;
    private int left = CALLS;
    private final RouterPaths router;
    private final Model model;
    private String waiting = "";
    private int typed = 0;

    private ModelTest(int run) {
        seed = run * 7919L + 17;
        // the first draws of near seeds are near each other
        for (int i = 0; i < 5; i++) {
            below(2);
        }
        int side = below(4) == 0 ? below(30) - 4 : 2 + below(19);
        router = new RouterPaths(side);
        model = new Model(side);
    }

    public static void main(String[] args) {
        for (int run = 0; run < RUNS; run++) {
            ModelTest test = new ModelTest(run);
            while (test.left > LAST_LOOK) {
                test.round(run + "." + test.left);
            }
            test.compareCells(run + " at last", test.left);
        }
        due.end();
    }

    private int below(int bound) {
        seed = seed * 6364136223846793005L + 1442695040888963407L;
        return (int) Math.floorMod(seed >>> 33, (long) bound);
    }

    /** Numbers at the edges now and then, else within. */
    private int near(int least, int most) {
        switch (below(40)) {
            case 0: return least - 1;
            case 1: return most + 1;
            case 2: return below(2) == 0 ? Integer.MIN_VALUE : Integer.MAX_VALUE;
            case 3: return least;
            case 4: return most;
            default: return least + below(most - least + 1);
        }
    }

    private void round(String name) {
        if (typed < waiting.length()) {
            int u = below(200) == 0 ? near(32, 126) : waiting.charAt(typed++);
            same(name + " unit " + u, () -> router.unit(u) ? 1 : 0, () -> model.unit(u) ? 1 : 0);
            return;
        }
        if (!waiting.isEmpty()) {
            waiting = "";
            same(name + " read", router::read, model::read);
            return;
        }
        switch (below(12)) {
            case 0: block(name); break;
            case 1: shapeTool(name); break;
            case 2: case 3: waiting = text(); typed = 0; break;
            case 4: case 5: case 6: runAndLook(name); break;
            case 7: ask(name); break;
            case 8: same(name + " pieces", router::pieces, model::pieces); break;
            case 9: reach(name); break;
            case 10: blankOut(name); break;
            default: same(name + " read early", router::read, model::read); break;
        }
    }

    private void same(String name, LongSupplier got, LongSupplier want) {
        left--;
        due.is(name, outcome(got), outcome(want));
    }

    private static long outcome(LongSupplier body) {
        try {
            return body.getAsLong();
        } catch (RuntimeException e) {
            Class<?> c = e.getClass();
            return c == IndexOutOfBoundsException.class ? -1001
                : c == IllegalArgumentException.class ? -1002
                : c == IllegalStateException.class ? -1003 : -1004 - c.getName().hashCode() * 1000003L;
        }
    }

    private void block(String name) {
        int last = model.side - 1;
        int x0 = near(0, last);
        int y0 = near(0, last);
        int x1 = below(8) == 0 ? near(0, last) : x0 + below(Math.max(1, Math.min(6, last - x0 + 1)));
        int y1 = below(8) == 0 ? near(0, last) : y0 + below(Math.max(1, Math.min(6, last - y0 + 1)));
        if (below(4) == 0) {
            boolean on = below(3) == 0;
            same(name + " keep", () -> { router.keep(x0, y0, x1, y1, on); return 0; },
                () -> { model.keep(x0, y0, x1, y1, on); return 0; });
        } else {
            int h = below(3) == 0 ? near(0, 100) : 10 * below(11);
            same(name + " target", () -> { router.target(x0, y0, x1, y1, h); return 0; },
                () -> { model.target(x0, y0, x1, y1, h); return 0; });
        }
    }

    private void shapeTool(String name) {
        int t = near(0, 3);
        int r = below(3) == 0 ? near(0, 6) : below(3);
        int f = near(1, 10);
        same(name + " tool", () -> { router.tool(t, r, f); return 0; }, () -> { model.tool(t, r, f); return 0; });
    }

    private void runAndLook(String name) {
        same(name + " run", router::run, model::run);
        for (int what = -1; what <= 6; what++) {
            int asked = what;
            same(name + " about " + what, () -> router.about(asked), () -> model.about(asked));
        }
        for (int what = -1; what <= 4; what++) {
            int asked = what;
            same(name + " check " + what, () -> router.check(asked), () -> model.check(asked));
        }
        compareCells(name, 9);
    }

    private void ask(String name) {
        int x = near(0, model.side - 1);
        int y = near(0, model.side - 1);
        int what = near(0, 2);
        same(name + " cell", () -> router.cell(x, y, what), () -> model.cell(x, y, what));
    }

    private void reach(String name) {
        int t = near(0, 3);
        same(name + " reached " + t, () -> router.reached(t), () -> model.reached(t));
    }

    private void blankOut(String name) {
        if (below(2) == 0) {
            same(name + " blank", () -> { router.blank(); return 0; }, () -> { model.blank(); return 0; });
        }
        compareCells(name, 3);
    }

    /** Heights more often than what else a cell has, as these change most. */
    private void compareCells(String name, int many) {
        for (int n = 0; n < many; n++) {
            int x = below(model.side);
            int y = below(model.side);
            int what = below(4) == 0 ? below(3) : 0;
            same(name + " cell " + x + " " + y + " " + what, () -> router.cell(x, y, what), () -> model.cell(x, y, what));
        }
    }

    /** Mostly sound, so that programs run; a third with a character changed, taken out or put in. */
    private String text() {
        StringBuilder out = new StringBuilder();
        int count = below(12) == 0 ? 28 + below(8) : 1 + below(8);
        boolean terse = count > 8;
        for (int s = 0; s < count; s++) {
            statement(out, terse);
        }
        if (below(3) == 0) {
            int place = below(out.length());
            char other = "TGXYZ0123456789; ;x".charAt(below(19));
            switch (below(4)) {
                case 0: out.setCharAt(place, other); break;
                case 1: out.deleteCharAt(place); break;
                case 2: out.insert(place, other); break;
                default: out.append(other); break;
            }
        }
        return out.toString();
    }

    private void statement(StringBuilder out, boolean terse) {
        space(out, terse);
        if (terse ? below(4) != 0 : below(4) == 0) {
            out.append('T').append(below(4));
        } else {
            // more cuts than passes, or nearly each run would end in a crash
            out.append('G').append(below(3) == 0 ? 0 : 1);
            int told = 1 + below(7);
            word(out, terse, (told & 1) != 0, 'X', model.side - 1);
            word(out, terse, (told & 2) != 0, 'Y', model.side - 1);
            word(out, terse, (told & 4) != 0, 'Z', 100);
        }
        space(out, terse);
        out.append(';');
    }

    private void word(StringBuilder out, boolean terse, boolean told, char letter, int most) {
        if (!told) {
            return;
        }
        space(out, terse);
        int number = below(60) == 0 ? most + 1 + below(3) : below(6) == 0 ? most : below(most + 1);
        out.append(letter).append(below(10) == 0 && number < 100 ? "0" : "").append(number);
    }

    private void space(StringBuilder out, boolean terse) {
        if (!terse && below(6) == 0) {
            out.append(" ".repeat(1 + below(2)));
        }
    }
}
