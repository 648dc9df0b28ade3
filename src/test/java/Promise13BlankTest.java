/** Promise 13: blank. */
public final class Promise13BlankTest {
    private static final Due due = new Due("Promise13BlankTest");

    public static void main(String[] args) {
        RouterPaths r = new RouterPaths(6);
        r.blank();
        r.target(1, 1, 2, 2, 10);
        r.keep(5, 5, 5, 5, true);
        r.tool(1, 2, 7);
        due.is("run", Due.running(r, "T1;G1X1Y1Z0;"), 0);
        due.is("time", r.about(0), 710);
        due.is("height", r.cell(1, 1, 0), 0);
        Due.type(r, "T1;G1");
        r.blank();
        for (int c = 0; c < 36; c++) {
            int x = c % 6;
            int y = c / 6;
            boolean aimed = x >= 1 && x <= 2 && y >= 1 && y <= 2;
            due.is("height", r.cell(x, y, 0), 100);
            due.is("target stays", r.cell(x, y, 1), aimed ? 10 : 100);
            due.is("kept stays", r.cell(x, y, 2), c == 35 ? 1 : 0);
        }
        due.is("the latest run stays", r.about(0), 710);
        due.is("the program stays", r.run(), 0);
        due.is("the tool stays", r.about(0), 710);
        due.is("the text stays", Due.reading(r, "Z7;"), 2);
        due.end();
    }
}
