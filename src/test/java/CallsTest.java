import java.util.function.ToIntFunction;

/** "An object is used for at most 512 calls": the 512th is answered as the first would be, whatever the calls before it were. */
public final class CallsTest {
    private static final Due due = new Due("CallsTest");
    private static final int CALLS = 512;
    /** The dearest text: the longest ways that 32 statements can go, by the widest tool. */
    private static final String DEAR = "T1;" + "G1Z0;G1Z100;".repeat(15) + "G1Z0;";

    private RouterPaths router;
    private int left;

    public static void main(String[] args) {
        CallsTest test = new CallsTest();
        test.last("cell", r -> r.cell(19, 19, 0), 100);
        test.last("check", r -> r.check(1), 35);
        test.last("reached", r -> r.reached(1), 0);
        test.last("pieces", RouterPaths::pieces, 1);
        test.last("run", RouterPaths::run, 0);
        test.last("about", r -> r.about(0), 10 + 31 * 1000);
        test.last("unit", r -> r.unit(127) ? 1 : 0, 0);
        test.last("read", RouterPaths::read, -1);
        test.lastOfAFullText();
        test.lastThatChangesCells();
        test.lastThatIsRefused();
        due.end();
    }

    /** A new object after some calls: a program that cut the corner, and its widest tool. */
    private void makeAnew() {
        router = new RouterPaths(20);
        left = CALLS;
        router.tool(1, 6, 10);
        left--;
        for (int i = 0; i < DEAR.length(); i++) {
            due.yes("unit", router.unit(DEAR.charAt(i)));
            left--;
        }
        due.is("read", router.read(), 32);
        left--;
        due.is("run", router.run(), 0);
        left--;
    }

    private void last(String name, ToIntFunction<RouterPaths> call, int want) {
        makeAnew();
        while (left > 0) {
            left--;
            due.is(name + ", " + left + " calls before the last", call.applyAsInt(router), want);
        }
    }

    /** The most characters, and the most statements, at the end of an object's calls. */
    private void lastOfAFullText() {
        router = new RouterPaths(20);
        left = CALLS - 2;
        while (left > 240) {
            left--;
            due.is("empty", router.read(), -1);
        }
        due.yes("240 characters", Due.type(router, "G1X1Y1Z5;".repeat(24) + "T0;".repeat(8)));
        due.is("the 511th call, read()", router.read(), 32);
        due.is("the 512th call, run()", router.run(), 0);
    }

    private void lastThatChangesCells() {
        makeAnew();
        while (left > 3) {
            left--;
            router.target(0, 0, 19, 19, left % 100);
        }
        router.target(0, 0, 19, 19, 7);
        router.blank();
        due.is("the 512th call", router.check(0), 400);
        makeAnew();
        while (left > 2) {
            left--;
            router.keep(0, 0, 19, 19, left % 2 == 0);
        }
        router.keep(0, 0, 19, 19, true);
        due.is("the 512th call", router.cell(19, 19, 2), 1);
        makeAnew();
        while (left > 3) {
            left--;
            router.tool(1, left % 7, 1 + left % 10);
        }
        router.tool(1, 0, 3);
        due.is("the 511th call, run()", router.run(), 0);
        due.is("the 512th call", router.about(0), 10 + 31 * 300);
    }

    private void lastThatIsRefused() {
        RouterPaths r = new RouterPaths(20);
        for (int call = 1; call < CALLS; call += 8) {
            due.state("run()", r::run);
            due.state("about(0)", () -> r.about(0));
            due.index("about(6)", () -> r.about(6));
            due.index("cell(20, 0, 0)", () -> r.cell(20, 0, 0));
            due.index("check(4)", () -> r.check(4));
            due.index("reached(4)", () -> r.reached(4));
            due.argument("tool(0, 7, 1)", () -> r.tool(0, 7, 1));
            due.argument("target(1, 0, 0, 0, 5)", () -> r.target(1, 0, 0, 0, 5));
        }
    }
}
