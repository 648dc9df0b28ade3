/** Promise 8: about. */
public final class Promise08AboutTest {
    private static final Due due = new Due("Promise08AboutTest");

    public static void main(String[] args) {
        RouterPaths r = new RouterPaths(8);
        r.tool(1, 1, 3);
        for (int what = 0; what <= 5; what++) {
            int asked = what;
            due.state("about(" + what + ") before a run", () -> r.about(asked));
        }
        refusals(r);
        Due.reading(r, "T1;G1Z98;G1X2;G0Z100;G0Y4;");
        due.state("about(0) of a program that did not run", () -> r.about(0));
        due.is("run", r.run(), 0);
        // 10 of T, 2 steps of 3, 2 steps of 3, 2 steps, 4 steps; 3 + 3 cells, then 2 and 2 more
        isAbout(r, 28, 5, 2, 4, 100, 10);
        refusals(r);
        latestStays(r);
        crash(r);
        breach(r);
        due.end();
    }

    private static void isAbout(RouterPaths r, int... want) {
        for (int what = 0; what <= 5; what++) {
            due.is("about(" + what + ")", r.about(what), want[what]);
        }
    }

    private static void refusals(RouterPaths r) {
        due.index("about(-1)", () -> r.about(-1));
        due.index("about(6)", () -> r.about(6));
        due.index("about(least)", () -> r.about(Integer.MIN_VALUE));
        due.index("about(greatest)", () -> r.about(Integer.MAX_VALUE));
    }

    private static void latestStays(RouterPaths r) {
        r.blank();
        r.tool(1, 0, 1);
        Due.reading(r, "G0X1;");
        Due.reading(r, "nothing");
        isAbout(r, 28, 5, 2, 4, 100, 10);
        r.tool(1, 1, 3);
    }

    /** The crash is at x 2, y 1: the step's place, and its time does not count. */
    private static void crash(RouterPaths r) {
        r.blank();
        due.is("run", Due.running(r, "G1Z98;G1X1;G0X3Y2;T1;"), 1);
        isAbout(r, 3, 2, 2, 1, 98, 3);
    }

    private static void breach(RouterPaths r) {
        r.blank();
        r.keep(5, 0, 5, 0, true);
        due.is("run", Due.running(r, "T1;T1;G1X6Z94;"), 2);
        // steps at x 1, 2, 3 cut 4 cells each; at x 4 the disc has the kept cell
        isAbout(r, 29, 2, 4, 0, 96, 12);
        due.is("at once", Due.running(r, "G0X5;G1Z0;"), 2);
        isAbout(r, 5, 1, 5, 0, 99, 0);
    }
}
