/** A board that a router cuts: heights, targets, tools, a text of moves, and what a run of it leaves. */
public final class RouterPaths {
    public static final int NONE = -1;

    private static final int LEAST_SIDE = 2;
    private static final int MOST_SIDE = 20;
    private static final int FULL_HEIGHT = 100;
    private static final int TOOLS = 4;
    private static final int MOST_RADIUS = 6;
    private static final int MOST_FEED = 10;
    private static final int CHANGE_TIME = 10;
    private static final int MOST_CHARACTERS = 240;
    private static final int MOST_STATEMENTS = 32;
    private static final int MOST_DIGITS = 3;

    private static final int WENT_THROUGH = 0;
    private static final int CRASH = 1;
    private static final int BREACH = 2;

    private final Grid grid;
    private final Tool[] tools;
    private final Reader reader;
    private final Machine machine;
    private final PieceCounter pieceCounter;
    private Program program;
    private Program draft;

    public RouterPaths(int side) {
        int nearest = Math.max(LEAST_SIDE, Math.min(MOST_SIDE, side));
        grid = new Grid(nearest);
        tools = new Tool[TOOLS];
        for (int t = 0; t < TOOLS; t++) {
            tools[t] = new Tool();
        }
        reader = new Reader(nearest);
        machine = new Machine();
        pieceCounter = new PieceCounter(nearest);
        program = new Program();
        draft = new Program();
    }

    public void target(int x0, int y0, int x1, int y1, int height)
            throws IndexOutOfBoundsException, IllegalArgumentException {
        demandBlock(x0, y0, x1, y1);
        if (height < 0 || height > FULL_HEIGHT) {
            throw new IllegalArgumentException("the height is not 0 .. 100");
        }
        grid.aimBlock(x0, y0, x1, y1, height);
    }

    public void keep(int x0, int y0, int x1, int y1, boolean on)
            throws IndexOutOfBoundsException, IllegalArgumentException {
        demandBlock(x0, y0, x1, y1);
        grid.guardBlock(x0, y0, x1, y1, on);
    }

    public void tool(int tool, int radius, int feed) throws IndexOutOfBoundsException, IllegalArgumentException {
        demandTool(tool);
        if (radius < 0 || radius > MOST_RADIUS) {
            throw new IllegalArgumentException("the radius is not 0 .. 6");
        }
        if (feed < 1 || feed > MOST_FEED) {
            throw new IllegalArgumentException("the feed is not 1 .. 10");
        }
        tools[tool].become(radius, feed);
    }

    public boolean unit(int u) {
        return reader.append(u);
    }

    public int read() {
        int answer = reader.parse(draft);
        if (answer >= 0) {
            // The two change places, so that a fault in a later text can't spoil the program that stands.
            Program newest = draft;
            draft = program;
            program = newest;
        }
        return answer;
    }

    public int run() throws IllegalStateException {
        // A text has one statement at least, so only a program that was never read is empty.
        if (program.count == 0) {
            throw new IllegalStateException("there is no program");
        }
        return machine.follow(program, grid, tools);
    }

    public int about(int what) throws IndexOutOfBoundsException, IllegalStateException {
        demandWhat(what, 5);
        if (!machine.hasRun) {
            throw new IllegalStateException("there was no run");
        }
        switch (what) {
            case 0: return machine.time;
            case 1: return machine.ended;
            case 2: return machine.x;
            case 3: return machine.y;
            case 4: return machine.z;
            default: return machine.cut;
        }
    }

    public int cell(int x, int y, int what) throws IndexOutOfBoundsException {
        demandCell(x, y);
        demandWhat(what, 2);
        int place = grid.placeOf(x, y);
        switch (what) {
            case 0: return grid.heights[place];
            case 1: return grid.targets[place];
            default: return grid.kept[place] ? 1 : 0;
        }
    }

    public int check(int what) throws IndexOutOfBoundsException {
        demandWhat(what, 3);
        switch (what) {
            case 0: return grid.countOff(true);
            case 1: return grid.countOff(false);
            case 2: return grid.firstOff(true);
            default: return grid.firstOff(false);
        }
    }

    public int reached(int tool) throws IndexOutOfBoundsException {
        demandTool(tool);
        return grid.countReached(tools[tool]);
    }

    public int pieces() {
        return pieceCounter.count(grid);
    }

    public void blank() {
        grid.fillUp();
    }

    private void demandBlock(int x0, int y0, int x1, int y1) {
        demandCell(x0, y0);
        demandCell(x1, y1);
        if (x1 < x0 || y1 < y0) {
            throw new IllegalArgumentException("the last cell lies before the first");
        }
    }

    private void demandCell(int x, int y) {
        if (!grid.holds(x, y)) {
            throw new IndexOutOfBoundsException("there is no such cell");
        }
    }

    private static void demandTool(int number) {
        if (number < 0 || number >= TOOLS) {
            throw new IndexOutOfBoundsException("there is no such tool");
        }
    }

    private static void demandWhat(int what, int last) {
        if (what < 0 || what > last) {
            throw new IndexOutOfBoundsException("there is no such what");
        }
    }

    /** A round tool, with the half width of its disc for each distance of a row from the middle. */
    private static final class Tool {
        int radius;
        int feed;
        final int[] halfWidths;

        Tool() {
            radius = 0;
            feed = 1;
            halfWidths = new int[MOST_RADIUS + 1];
        }

        void become(int newRadius, int newFeed) {
            radius = newRadius;
            feed = newFeed;
            for (int row = 0; row <= MOST_RADIUS; row++) {
                halfWidths[row] = halfWidthAt(row, newRadius);
            }
        }

        private static int halfWidthAt(int row, int radius) {
            int width = 0;
            for (int wider = 1; wider <= radius; wider++) {
                if (wider * wider + row * row <= radius * radius) {
                    width = wider;
                }
            }
            return width;
        }
    }

    /** The cells, row behind row, and the disc that was laid on them last. */
    private static final class Grid {
        final int side;
        final int cells;
        final int[] heights;
        final int[] targets;
        final boolean[] kept;
        private final boolean[] marks;
        private final int[] disc;
        private int discSize;

        Grid(int side) {
            this.side = side;
            cells = side * side;
            heights = new int[cells];
            targets = new int[cells];
            for (int c = 0; c < cells; c++) {
                heights[c] = FULL_HEIGHT;
                targets[c] = FULL_HEIGHT;
            }
            kept = new boolean[cells];
            marks = new boolean[cells];
            disc = new int[cells];
            discSize = 0;
        }

        boolean holds(int x, int y) {
            return x >= 0 && x < side && y >= 0 && y < side;
        }

        int placeOf(int x, int y) {
            return side * y + x;
        }

        void aimBlock(int x0, int y0, int x1, int y1, int height) {
            for (int y = y0; y <= y1; y++) {
                for (int x = x0; x <= x1; x++) {
                    targets[placeOf(x, y)] = height;
                }
            }
        }

        void guardBlock(int x0, int y0, int x1, int y1, boolean on) {
            for (int y = y0; y <= y1; y++) {
                for (int x = x0; x <= x1; x++) {
                    kept[placeOf(x, y)] = on;
                }
            }
        }

        void fillUp() {
            for (int c = 0; c < cells; c++) {
                heights[c] = FULL_HEIGHT;
            }
        }

        /** LEFT if it is asked above the target, DEEP if below. */
        private boolean isOff(int c, boolean above) {
            return above ? heights[c] > targets[c] : heights[c] < targets[c];
        }

        int countOff(boolean above) {
            int count = 0;
            for (int c = 0; c < cells; c++) {
                if (isOff(c, above)) {
                    count++;
                }
            }
            return count;
        }

        int firstOff(boolean above) {
            for (int c = 0; c < cells; c++) {
                if (isOff(c, above)) {
                    return c;
                }
            }
            return NONE;
        }

        /** Lists the cells of the tool's disc at x, y; the questions about the disc go to this list. */
        void layDisc(Tool tool, int x, int y) {
            discSize = 0;
            int bottom = Math.min(side - 1, y + tool.radius);
            for (int row = Math.max(0, y - tool.radius); row <= bottom; row++) {
                int halfWidth = tool.halfWidths[Math.abs(row - y)];
                int right = Math.min(side - 1, x + halfWidth);
                for (int column = Math.max(0, x - halfWidth); column <= right && discSize < cells; column++) {
                    disc[discSize] = placeOf(column, row);
                    discSize++;
                }
            }
        }

        boolean discRisesAbove(int z) {
            for (int i = 0; i < discSize; i++) {
                if (heights[disc[i]] > z) {
                    return true;
                }
            }
            return false;
        }

        boolean discHasKeptAbove(int z) {
            for (int i = 0; i < discSize; i++) {
                if (kept[disc[i]] && heights[disc[i]] > z) {
                    return true;
                }
            }
            return false;
        }

        /** Cuts the disc down to z and answers how many cells that lowered. */
        int lowerDisc(int z) {
            int lowered = 0;
            for (int i = 0; i < discSize; i++) {
                if (heights[disc[i]] > z) {
                    heights[disc[i]] = z;
                    lowered++;
                }
            }
            return lowered;
        }

        int countReached(Tool tool) {
            for (int c = 0; c < cells; c++) {
                marks[c] = false;
            }
            int count = 0;
            for (int y = 0; y < side; y++) {
                for (int x = 0; x < side; x++) {
                    layDisc(tool, x, y);
                    if (!discHasKept()) {
                        count += markReached(highestTargetInDisc());
                    }
                }
            }
            return count;
        }

        private boolean discHasKept() {
            for (int i = 0; i < discSize; i++) {
                if (kept[disc[i]]) {
                    return true;
                }
            }
            return false;
        }

        private int highestTargetInDisc() {
            int highest = 0;
            for (int i = 0; i < discSize; i++) {
                highest = Math.max(highest, targets[disc[i]]);
            }
            return highest;
        }

        /** Only cells that want the disc's highest target have none above them in it. */
        private int markReached(int highest) {
            int fresh = 0;
            for (int i = 0; i < discSize; i++) {
                int c = disc[i];
                if (!marks[c] && targets[c] == highest && isOff(c, true)) {
                    marks[c] = true;
                    fresh++;
                }
            }
            return fresh;
        }
    }

    /** Counts pieces by spreading from each cell that no piece before it took. */
    private static final class PieceCounter {
        private final int side;
        private final int cells;
        private final boolean[] taken;
        private final int[] queueX;
        private final int[] queueY;
        private int queued;

        PieceCounter(int side) {
            this.side = side;
            cells = side * side;
            taken = new boolean[cells];
            queueX = new int[cells];
            queueY = new int[cells];
            queued = 0;
        }

        int count(Grid grid) {
            for (int c = 0; c < cells; c++) {
                taken[c] = false;
            }
            queued = 0;
            int found = 0;
            for (int y = 0; y < side; y++) {
                for (int x = 0; x < side; x++) {
                    int before = queued;
                    take(grid, x, y);
                    if (queued > before) {
                        found++;
                        spread(grid, before);
                    }
                }
            }
            return found;
        }

        /** Each cell is queued once in all pieces together, so the queue never outgrows the grid. */
        private void spread(Grid grid, int first) {
            for (int next = first; next < queued && next < cells; next++) {
                int x = queueX[next];
                int y = queueY[next];
                take(grid, x - 1, y);
                take(grid, x + 1, y);
                take(grid, x, y - 1);
                take(grid, x, y + 1);
            }
        }

        private void take(Grid grid, int x, int y) {
            if (!grid.holds(x, y) || queued >= cells) {
                return;
            }
            int c = grid.placeOf(x, y);
            if (!taken[c] && grid.heights[c] > 0) {
                taken[c] = true;
                queueX[queued] = x;
                queueY[queued] = y;
                queued++;
            }
        }
    }

    /** The statements of a text: a letter T or G, the digit behind it, and of G what is told of x, y, z. */
    private static final class Program {
        int count;
        final char[] letters;
        final int[] digits;
        final int[] xs;
        final int[] ys;
        final int[] zs;

        Program() {
            count = 0;
            letters = new char[MOST_STATEMENTS];
            digits = new int[MOST_STATEMENTS];
            xs = new int[MOST_STATEMENTS];
            ys = new int[MOST_STATEMENTS];
            zs = new int[MOST_STATEMENTS];
        }

        void clear() {
            count = 0;
        }

        void add(char letter, int digit, int x, int y, int z) {
            if (count < MOST_STATEMENTS) {
                letters[count] = letter;
                digits[count] = digit;
                xs[count] = x;
                ys[count] = y;
                zs[count] = z;
                count++;
            }
        }
    }

    /** Holds the text and parses it; where a part can't be taken, place is left standing on the fault. */
    private static final class Reader {
        private static final int FAULT = -2;
        private static final int TEXT_END = -1;

        private final int side;
        private final int[] text;
        private int length;
        private int place;

        Reader(int side) {
            this.side = side;
            text = new int[MOST_CHARACTERS];
            length = 0;
            place = 0;
        }

        boolean append(int character) {
            if (length >= MOST_CHARACTERS || character < 32 || character > 126) {
                return false;
            }
            text[length] = character;
            length++;
            return true;
        }

        /** Empties the text: how many statements it had, or -1 less the place of its fault. */
        int parse(Program program) {
            place = 0;
            program.clear();
            boolean sound = takeStatement(program);
            for (int n = 1; n < MOST_STATEMENTS && sound && place < length; n++) {
                sound = takeStatement(program);
            }
            // Behind the last statement there is room for none, not even for a space before it.
            boolean whole = sound && place >= length;
            length = 0;
            return whole ? program.count : -1 - place;
        }

        private boolean takeStatement(Program program) {
            skipSpaces();
            switch (here()) {
                case 'T': return takeChange(program);
                case 'G': return takeMove(program);
                default: return false;
            }
        }

        private boolean takeChange(Program program) {
            place++;
            int number = takeDigit(TOOLS - 1);
            if (number == FAULT || !takeEnd()) {
                return false;
            }
            program.add('T', number, NONE, NONE, NONE);
            return true;
        }

        private boolean takeMove(Program program) {
            place++;
            int way = takeDigit(1);
            if (way == FAULT) {
                return false;
            }
            int x = takeNumber('X', side - 1);
            if (x == FAULT) {
                return false;
            }
            int y = takeNumber('Y', side - 1);
            if (y == FAULT) {
                return false;
            }
            int z = takeNumber('Z', FULL_HEIGHT);
            if (z == FAULT) {
                return false;
            }
            boolean nothingTold = x == NONE && y == NONE && z == NONE;
            if (nothingTold || !takeEnd()) {
                return false;
            }
            program.add('G', way, x, y, z);
            return true;
        }

        private int takeDigit(int most) {
            int digit = here() - '0';
            if (digit < 0 || digit > most) {
                return FAULT;
            }
            place++;
            return digit;
        }

        /** The number behind the letter; NONE if the letter isn't next; FAULT. */
        private int takeNumber(char letter, int most) {
            skipSpaces();
            if (here() != letter) {
                return NONE;
            }
            place++;
            int first = place;
            int number = 0;
            for (int n = 0; n < MOST_DIGITS && here() >= '0' && here() <= '9'; n++) {
                number = 10 * number + (here() - '0');
                place++;
            }
            if (place == first) {
                return FAULT;
            }
            if (number > most) {
                place = first;
                return FAULT;
            }
            return number;
        }

        private boolean takeEnd() {
            skipSpaces();
            if (here() != ';') {
                return false;
            }
            place++;
            return true;
        }

        private void skipSpaces() {
            while (place < length && here() == ' ') {
                place++;
            }
        }

        private int here() {
            return place >= 0 && place < length ? text[place] : TEXT_END;
        }
    }

    /** Follows a program over the grid and remembers what the latest run came to. */
    private static final class Machine {
        boolean hasRun;
        int time;
        int ended;
        int x;
        int y;
        int z;
        int cut;
        private int held;

        Machine() {
            hasRun = false;
            startAnew();
        }

        private void startAnew() {
            time = 0;
            ended = 0;
            x = 0;
            y = 0;
            z = FULL_HEIGHT;
            cut = 0;
            held = 0;
        }

        int follow(Program program, Grid grid, Tool[] tools) {
            startAnew();
            hasRun = true;
            for (int n = 0; n < program.count; n++) {
                ended = n;
                int outcome = obey(program, n, grid, tools);
                if (outcome != WENT_THROUGH) {
                    return outcome;
                }
            }
            ended = program.count;
            return WENT_THROUGH;
        }

        private int obey(Program program, int n, Grid grid, Tool[] tools) {
            if (program.letters[n] == 'T') {
                held = program.digits[n];
                time += CHANGE_TIME;
                return WENT_THROUGH;
            }
            int dx = difference(x, program.xs[n]);
            int dy = difference(y, program.ys[n]);
            int dz = difference(z, program.zs[n]);
            return travel(dx, dy, dz, program.digits[n] == 1, grid, tools[held]);
        }

        private static int difference(int from, int told) {
            return told == NONE ? 0 : told - from;
        }

        private int travel(int dx, int dy, int dz, boolean cutting, Grid grid, Tool tool) {
            int fromX = x;
            int fromY = y;
            int fromZ = z;
            int steps = Math.max(Math.abs(dx), Math.max(Math.abs(dy), Math.abs(dz)));
            for (int i = 1; i <= steps; i++) {
                x = along(fromX, dx, i, steps);
                y = along(fromY, dy, i, steps);
                z = along(fromZ, dz, i, steps);
                grid.layDisc(tool, x, y);
                int outcome = cutting ? cutHere(grid, tool) : passHere(grid);
                if (outcome != WENT_THROUGH) {
                    return outcome;
                }
            }
            return WENT_THROUGH;
        }

        private static int along(int from, int difference, int step, int steps) {
            return steps > 0 ? from + Math.floorDiv(2 * difference * step + steps, 2 * steps) : from;
        }

        private int cutHere(Grid grid, Tool tool) {
            if (grid.discHasKeptAbove(z)) {
                return BREACH;
            }
            cut += grid.lowerDisc(z);
            time += tool.feed;
            return WENT_THROUGH;
        }

        private int passHere(Grid grid) {
            if (grid.discRisesAbove(z)) {
                return CRASH;
            }
            time++;
            return WENT_THROUGH;
        }
    }
}
