/** Promise 10: check. */
public final class Promise10CheckTest {
    private static final Due due = new Due("Promise10CheckTest");

    public static void main(String[] args) {
        RouterPaths r = new RouterPaths(6);
        isChecked(r, 0, 0, -1, -1);
        r.target(4, 1, 5, 1, 99);
        r.target(0, 2, 0, 3, 50);
        isChecked(r, 4, 0, 10, -1);
        due.is("run", Due.running(r, "G0X4Y1;G1Z99;"), 0);
        isChecked(r, 3, 0, 11, -1);
        due.is("run", Due.running(r, "G0X4Y1;G1Z98;G1Z100;G0X5Y5;G1Z40;"), 0);
        isChecked(r, 3, 2, 11, 10);
        r.target(4, 1, 4, 1, 98);
        isChecked(r, 3, 1, 11, 35);
        r.blank();
        isChecked(r, 4, 0, 10, -1);
        r.target(0, 0, 5, 5, 0);
        isChecked(r, 36, 0, 0, -1);
        r.target(0, 0, 5, 5, 100);
        r.tool(0, 6, 1);
        due.is("run", Due.running(r, "G1X3Y3Z0;"), 0);
        isChecked(r, 0, 36, -1, 0);
        due.index("check(-1)", () -> r.check(-1));
        due.index("check(4)", () -> r.check(4));
        due.index("check(least)", () -> r.check(Integer.MIN_VALUE));
        due.index("check(greatest)", () -> r.check(Integer.MAX_VALUE));
        due.end();
    }

    private static void isChecked(RouterPaths r, int left, int deep, int firstLeft, int firstDeep) {
        due.is("check(0)", r.check(0), left);
        due.is("check(1)", r.check(1), deep);
        due.is("check(2)", r.check(2), firstLeft);
        due.is("check(3)", r.check(3), firstDeep);
    }
}
