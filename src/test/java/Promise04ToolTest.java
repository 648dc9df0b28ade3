/** Promise 4: tool. */
public final class Promise04ToolTest {
    private static final Due due = new Due("Promise04ToolTest");
    // how many places of whole numbers lie in a circle of radius 0 .. 6
    private static final int[] DISC = {1, 5, 13, 29, 49, 81, 113};

    public static void main(String[] args) {
        for (int t = 0; t < 4; t++) {
            for (int radius = 0; radius <= 6; radius++) {
                cutsDisc(t, radius, 1 + (3 * t + radius) % 10);
            }
        }
        cutsDisc(0, 0, 10);
        refusals();
        due.end();
    }

    private static void cutsDisc(int t, int radius, int feed) {
        RouterPaths r = new RouterPaths(20);
        r.tool(t, radius, feed);
        due.is("run", Due.running(r, "T" + t + ";G0X9Y9;G1Z99;"), 0);
        due.is("cut by radius " + radius, r.about(5), DISC[radius]);
        due.is("time by feed " + feed, r.about(0), 10 + 9 + feed);
        for (int y = 0; y < 20; y++) {
            for (int x = 0; x < 20; x++) {
                boolean in = (x - 9) * (x - 9) + (y - 9) * (y - 9) <= radius * radius;
                due.is("height", r.cell(x, y, 0), in ? 99 : 100);
            }
        }
    }

    private static void refusals() {
        RouterPaths r = new RouterPaths(20);
        r.tool(1, 2, 5);
        due.index("tool -1", () -> r.tool(-1, 1, 1));
        due.index("tool 4", () -> r.tool(4, 1, 1));
        due.index("tool least", () -> r.tool(Integer.MIN_VALUE, 1, 1));
        due.index("tool before radius", () -> r.tool(4, 7, 0));
        due.argument("radius -1", () -> r.tool(1, -1, 1));
        due.argument("radius 7", () -> r.tool(1, 7, 1));
        due.argument("feed 0", () -> r.tool(1, 1, 0));
        due.argument("feed 11", () -> r.tool(1, 1, 11));
        due.argument("feed -1", () -> r.tool(1, 1, -1));
        due.is("run", Due.running(r, "T1;G0X9Y9;G1Z99;"), 0);
        due.is("radius stays", r.about(5), 13);
        due.is("feed stays", r.about(0), 24);
        r.blank();
        r.tool(1, 1, 2);
        due.is("run of a tool changed behind reading", r.run(), 0);
        due.is("cut", r.about(5), 5);
        due.is("time", r.about(0), 21);
    }
}
