import java.util.ArrayList;
import java.util.List;
import java.util.regex.Matcher;
import java.util.regex.Pattern;

/**
 * The document's words as plainly as they go, by other ways than the class takes: texts by a regular
 * expression, discs by their formula over the whole grid, pieces by labels that flow until they rest.
 */
final class Model {
    private static final String NUMBER = "[0-9]{1,3}";
    private static final String X = " *X" + NUMBER;
    private static final String Y = " *Y" + NUMBER;
    private static final String Z = " *Z" + NUMBER;
    private static final String WORDS =
        "(" + X + "(" + Y + ")?(" + Z + ")?|" + Y + "(" + Z + ")?|" + Z + ")";
    private static final Pattern TEXT = Pattern.compile("(( *T[0-3]| *G[01]" + WORDS + ") *;){1,32}");
    private static final Pattern VALUE = Pattern.compile("([XYZ])(" + NUMBER + ")");

    final int side;
    final int[][] height;
    final int[][] target;
    final boolean[][] kept;
    final int[] radius = {0, 0, 0, 0};
    final int[] feed = {1, 1, 1, 1};
    String text = "";
    List<String> program = null;
    int[] about = null;

    Model(int asked) {
        side = asked < 2 ? 2 : asked > 20 ? 20 : asked;
        height = new int[side][side];
        target = new int[side][side];
        kept = new boolean[side][side];
        for (int x = 0; x < side; x++) {
            for (int y = 0; y < side; y++) {
                height[x][y] = 100;
                target[x][y] = 100;
            }
        }
    }

    private boolean off(int... places) {
        for (int p : places) {
            if (p < 0 || p >= side) {
                return true;
            }
        }
        return false;
    }

    private static void index(boolean bad) {
        if (bad) {
            throw new IndexOutOfBoundsException();
        }
    }

    private static void argument(boolean bad) {
        if (bad) {
            throw new IllegalArgumentException();
        }
    }

    private static void state(boolean bad) {
        if (bad) {
            throw new IllegalStateException();
        }
    }

    void target(int x0, int y0, int x1, int y1, int h) {
        index(off(x0, y0, x1, y1));
        argument(x1 < x0 || y1 < y0 || h < 0 || h > 100);
        for (int x = x0; x <= x1; x++) {
            for (int y = y0; y <= y1; y++) {
                target[x][y] = h;
            }
        }
    }

    void keep(int x0, int y0, int x1, int y1, boolean on) {
        index(off(x0, y0, x1, y1));
        argument(x1 < x0 || y1 < y0);
        for (int x = x0; x <= x1; x++) {
            for (int y = y0; y <= y1; y++) {
                kept[x][y] = on;
            }
        }
    }

    void tool(int t, int r, int f) {
        index(t < 0 || t > 3);
        argument(r < 0 || r > 6 || f < 1 || f > 10);
        radius[t] = r;
        feed[t] = f;
    }

    boolean unit(int u) {
        boolean taken = text.length() < 240 && u >= 32 && u <= 126;
        text = taken ? text + (char) u : text;
        return taken;
    }

    int read() {
        String whole = text;
        text = "";
        int fault = faultOf(whole);
        if (fault >= 0) {
            return -1 - fault;
        }
        program = new ArrayList<>();
        for (String statement : whole.replace(" ", "").split(";")) {
            program.add(statement);
        }
        return program.size();
    }

    /** -1 if there is none. A prefix is good while the expression only wants more behind it. */
    private int faultOf(String whole) {
        int good = 0;
        while (good < whole.length() && canStart(whole.substring(0, good + 1))) {
            good++;
        }
        Matcher values = VALUE.matcher(whole.substring(0, good));
        while (values.find()) {
            int most = values.group(1).equals("Z") ? 100 : side - 1;
            if (Integer.parseInt(values.group(2)) > most) {
                return values.start(2);
            }
        }
        return good == whole.length() && TEXT.matcher(whole).matches() ? -1 : good;
    }

    private static boolean canStart(String start) {
        Matcher m = TEXT.matcher(start);
        return m.matches() || m.hitEnd();
    }

    int run() {
        state(program == null);
        int[] now = {0, 0, 100};
        int t = 0;
        about = new int[6];
        for (int s = 0; s < program.size(); s++) {
            String statement = program.get(s);
            int digit = statement.charAt(1) - '0';
            if (statement.charAt(0) == 'T') {
                t = digit;
                about[0] += 10;
                continue;
            }
            int[] goal = now.clone();
            Matcher values = VALUE.matcher(statement);
            while (values.find()) {
                goal["XYZ".indexOf(values.group(1))] = Integer.parseInt(values.group(2));
            }
            int n = 0;
            for (int a = 0; a < 3; a++) {
                n = Math.max(n, Math.abs(goal[a] - now[a]));
            }
            for (int i = 1; i <= n; i++) {
                int[] at = new int[3];
                for (int a = 0; a < 3; a++) {
                    at[a] = now[a] + (int) Math.floor((2.0 * (goal[a] - now[a]) * i + n) / (2.0 * n));
                }
                int outcome = step(digit, t, at);
                if (outcome != 0) {
                    end(s, at);
                    return outcome;
                }
            }
            now = goal;
        }
        end(program.size(), now);
        return 0;
    }

    private void end(int statement, int[] at) {
        about[1] = statement;
        System.arraycopy(at, 0, about, 2, 3);
    }

    private boolean inDisc(int t, int atX, int atY, int x, int y) {
        return (x - atX) * (x - atX) + (y - atY) * (y - atY) <= radius[t] * radius[t];
    }

    private int step(int way, int t, int[] at) {
        List<int[]> above = new ArrayList<>();
        boolean keptAbove = false;
        for (int x = 0; x < side; x++) {
            for (int y = 0; y < side; y++) {
                if (inDisc(t, at[0], at[1], x, y) && height[x][y] > at[2]) {
                    above.add(new int[] {x, y});
                    keptAbove |= kept[x][y];
                }
            }
        }
        if (way == 0) {
            about[0] += above.isEmpty() ? 1 : 0;
            return above.isEmpty() ? 0 : 1;
        }
        if (keptAbove) {
            return 2;
        }
        for (int[] c : above) {
            height[c[0]][c[1]] = at[2];
        }
        about[0] += feed[t];
        about[5] += above.size();
        return 0;
    }

    int about(int what) {
        index(what < 0 || what > 5);
        state(about == null);
        return about[what];
    }

    int cell(int x, int y, int what) {
        index(off(x, y) || what < 0 || what > 2);
        return what == 0 ? height[x][y] : what == 1 ? target[x][y] : kept[x][y] ? 1 : 0;
    }

    int check(int what) {
        index(what < 0 || what > 3);
        int count = 0;
        int first = -1;
        for (int c = side * side - 1; c >= 0; c--) {
            int more = height[c % side][c / side] - target[c % side][c / side];
            if (what % 2 == 0 ? more > 0 : more < 0) {
                count++;
                first = c;
            }
        }
        return what < 2 ? count : first;
    }

    int reached(int t) {
        index(t < 0 || t > 3);
        int count = 0;
        for (int c = 0; c < side * side; c++) {
            int x = c % side;
            int y = c / side;
            if (height[x][y] > target[x][y] && hasPlaceFor(t, x, y)) {
                count++;
            }
        }
        return count;
    }

    private boolean hasPlaceFor(int t, int x, int y) {
        for (int p = 0; p < side * side; p++) {
            if (inDisc(t, p % side, p / side, x, y) && isFree(t, p % side, p / side, target[x][y])) {
                return true;
            }
        }
        return false;
    }

    private boolean isFree(int t, int atX, int atY, int most) {
        for (int x = 0; x < side; x++) {
            for (int y = 0; y < side; y++) {
                if (inDisc(t, atX, atY, x, y) && (target[x][y] > most || kept[x][y])) {
                    return false;
                }
            }
        }
        return true;
    }

    int pieces() {
        int[][] label = new int[side][side];
        for (int c = 0; c < side * side; c++) {
            label[c % side][c / side] = height[c % side][c / side] > 0 ? c + 1 : 0;
        }
        boolean moved = true;
        while (moved) {
            moved = false;
            for (int x = 0; x < side; x++) {
                for (int y = 0; y < side; y++) {
                    moved |= x > 0 && join(label, x, y, x - 1, y);
                    moved |= y > 0 && join(label, x, y, x, y - 1);
                }
            }
        }
        int count = 0;
        for (int c = 0; c < side * side; c++) {
            count += label[c % side][c / side] == c + 1 ? 1 : 0;
        }
        return count;
    }

    private static boolean join(int[][] label, int x, int y, int ox, int oy) {
        int a = label[x][y];
        int b = label[ox][oy];
        if (a == 0 || b == 0 || a == b) {
            return false;
        }
        label[x][y] = Math.min(a, b);
        label[ox][oy] = Math.min(a, b);
        return true;
    }

    void blank() {
        for (int[] row : height) {
            java.util.Arrays.fill(row, 100);
        }
    }
}
