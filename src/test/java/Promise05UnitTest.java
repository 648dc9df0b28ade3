/** Promise 5: unit. */
public final class Promise05UnitTest {
    private static final Due due = new Due("Promise05UnitTest");

    public static void main(String[] args) {
        RouterPaths r = new RouterPaths(8);
        int[] refused = {Integer.MIN_VALUE, -1, 0, 9, 10, 31, 127, 128, 255, 256 + 84, 65536 + 84, Integer.MAX_VALUE};
        for (int u : refused) {
            due.no("unit(" + u + ")", r.unit(u));
        }
        due.is("nothing went in", Due.reading(r, "T0;"), 1);
        for (int u = 32; u <= 126; u++) {
            due.yes("unit(" + u + ")", r.unit(u));
        }
        r.read();
        refusedInTheMidst();
        room();
        due.end();
    }

    private static void refusedInTheMidst() {
        RouterPaths r = new RouterPaths(8);
        due.yes("unit(T)", r.unit('T'));
        due.no("unit(31)", r.unit(31));
        due.yes("unit(2)", r.unit('2'));
        due.no("unit(127)", r.unit(127));
        due.yes("unit(;)", r.unit(';'));
        due.is("read()", r.read(), 1);
    }

    private static void room() {
        RouterPaths r = new RouterPaths(8);
        due.yes("238 spaces", Due.type(r, " ".repeat(237) + "T"));
        due.yes("the 239th", r.unit('3'));
        due.yes("the 240th", r.unit(';'));
        due.no("the 241st", r.unit(';'));
        due.no("the 241st again", r.unit(' '));
        due.is("read()", r.read(), 1);
        due.is("all was taken out", r.read(), -1);
        due.yes("240 more", Due.type(r, " ".repeat(240)));
        due.no("the 241st", r.unit('T'));
        due.is("read()", r.read(), -241);
        due.yes("room again", r.unit('T'));
    }
}
