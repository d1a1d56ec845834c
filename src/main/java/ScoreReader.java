/**
 * Notes from paper: five even lines are found on a board of dots and taken off, what hangs together
 * then is read as signs, and the bars of the best reading are unrolled. The words in capitals are
 * those of the document.
 */
public final class ScoreReader {
    public static final int NONE = -1, BAD = -2, NOT = -3, FULL = -4;

    private static final int WIDTH = 60, HEIGHT = 32;
    private static final long WHOLE_ROW = (1L << WIDTH) - 1;
    private static final int LEAST_RUN = 10, FIRST_RUN = 40;
    private static final int MOST_SIGNS = 40;
    private static final int QUARTER = 0, HALF = 1, WHOLE = 2, REST = 3, DOT = 4, BAR = 5, DIRT = 6;
    private static final int KINDS = 6, READABLE = 7;
    private static final int MOST_AREA = 2000, MOST_PRICE = 100, MOST_DIRT = 1000;
    private static final int LEAST_TIME = 2, MOST_TIME = 48;
    private static final int MOST_MEASURES = 40, MOST_PLAYED = 200;
    private static final int AREA = 0, LEFT = 1, TOP = 2, RIGHT = 3, BOTTOM = 4, STEP = 5, SAID = 6;
    private static final int NO_STEP = NONE - 1000;
    private static final int BEGIN = 1, END = 2, FIRST = 3, BACK = 4;
    private static final int LEAST_INT = -2147483648;
    private static final int NOTHING_AGAINST = 0;

    private final Sheet board;
    private final Lines ruled;
    private final Signs signs;
    private final Kinds kinds;
    private final Reading reading;
    private final Ways ways;
    private int leastRun;
    private boolean found;
    private boolean readingIsOld;

    public ScoreReader() {
        board = new Sheet();
        ruled = new Lines();
        signs = new Signs();
        kinds = new Kinds();
        reading = new Reading();
        ways = new Ways();
        leastRun = FIRST_RUN;
        found = false;
        readingIsOld = true;
    }

    // ---- the board

    public int row(int y, long dots) {
        if (!within(y, 0, HEIGHT - 1) || dots < 0 || dots > WHOLE_ROW) {
            return BAD;
        }
        board.put(y, dots);
        found = false;
        return Long.bitCount(dots);
    }

    public int ink(int x, int y, int w, int h, boolean black) {
        if (!within(w, 1, WIDTH) || !within(h, 1, HEIGHT)) {
            return BAD;
        }
        if (!within(x, 0, WIDTH - w) || !within(y, 0, HEIGHT - h)) {
            return BAD;
        }
        found = false;
        return board.paint(y, h, (WHOLE_ROW >>> (WIDTH - w)) << x, black);
    }

    public int run(int v) {
        if (!within(v, LEAST_RUN, WIDTH)) {
            return BAD;
        }
        int was = leastRun;
        leastRun = v;
        found = false;
        return was;
    }

    public int dot(int x, int y) {
        if (!within(x, 0, WIDTH - 1) || !within(y, 0, HEIGHT - 1)) {
            return BAD;
        }
        return board.isBlack(x, y) ? 1 : 0;
    }

    public int lines() {
        ruled.look(board, leastRun);
        return ruled.size();
    }

    public int staff(int i, int way) {
        if (!within(i, 0, Lines.IN_A_STAFF - 1) || !within(way, 0, 1)) {
            return BAD;
        }
        ruled.look(board, leastRun);
        if (!ruled.hasStaff()) {
            return NOT;
        }
        return way == 0 ? ruled.firstRow(i) : ruled.lastRow(i);
    }

    // ---- signs

    public int find() {
        ruled.look(board, leastRun);
        found = signs.gather(board, ruled);
        readingIsOld = true;
        return found ? signs.size() : FULL;
    }

    public int sign(int k, int what) {
        if (!within(what, AREA, SAID) || !found || !within(k, 0, signs.size() - 1)) {
            return LEAST_INT;
        }
        return what == SAID ? signs.said(k) : signs.fact(k, what);
    }

    // ---- kinds

    public int kind(int k, int low, int high, int least, int price) {
        if (!within(k, 0, KINDS - 1) || !within(low, 0, MOST_AREA) || !within(high, low, MOST_AREA)) {
            return BAD;
        }
        if (!within(least, 1, HEIGHT) || !within(price, 0, MOST_PRICE)) {
            return BAD;
        }
        kinds.describe(k, low, high, least, price);
        readingIsOld = true;
        return 1;
    }

    public int set(int way, int v) {
        if (way == 0 && within(v, 0, MOST_DIRT)) {
            readingIsOld = true;
            return kinds.changeDirt(v);
        }
        if (way == 1 && within(v, LEAST_TIME, MOST_TIME)) {
            readingIsOld = true;
            return kinds.changeTime(v);
        }
        return BAD;
    }

    public int correct(int k, int what) {
        if (!within(what, NONE, DIRT)) {
            return BAD;
        }
        int against = againstSign(k);
        if (against != NOTHING_AGAINST) {
            return against;
        }
        readingIsOld = true;
        return signs.say(k, what);
    }

    // ---- reading

    public int best() {
        return hasReading() ? reading.cost() : NOT;
    }

    public int read(int k) {
        int against = againstSign(k);
        if (against != NOTHING_AGAINST) {
            return against;
        }
        return hasReading() ? reading.meaning(k) : NOT;
    }

    public int doubt(int k) {
        int against = againstSign(k);
        if (against != NOTHING_AGAINST) {
            return against;
        }
        return hasReading() ? reading.doubtOf(k) : NOT;
    }

    public int question() {
        return hasReading() ? reading.mostDoubtful() : NOT;
    }

    // ---- measures

    public int measures() {
        return hasReading() ? reading.measureCount() : NOT;
    }

    public int note(int measure, int i, int what) {
        if (!within(what, 0, 2) || !hasReading()) {
            return LEAST_INT;
        }
        int k = reading.noteSign(measure, i);
        if (k == NONE) {
            return LEAST_INT;
        }
        if (what == 0) {
            return k;
        }
        return what == 1 ? signs.fact(k, STEP) : reading.noteTime(k);
    }

    public int sway(int measure, int v) {
        if (!within(measure, 0, MOST_MEASURES - 1) || !within(v, 0, BACK)) {
            return BAD;
        }
        return ways.change(measure, v);
    }

    public int played(int i) {
        if (!within(i, 0, MOST_PLAYED - 1)) {
            return BAD;
        }
        return hasReading() ? ways.measurePlayed(i, reading.measureCount()) : NOT;
    }

    public int count(int what) {
        if (!within(what, 0, 4)) {
            return BAD;
        }
        if (what == 0) {
            return found ? signs.size() : NONE;
        }
        if (what == 3) {
            return signs.saidCount();
        }
        if (what == 4) {
            return board.blackDots();
        }
        ruled.look(board, leastRun);
        if (what == 1) {
            return ruled.hasStaff() ? 1 : 0;
        }
        return ruled.gap();
    }

    // ---- what the calls share

    private static boolean within(int v, int least, int greatest) {
        return v >= least && v <= greatest;
    }

    /**
     * What stands against naming SIGN k. A number that no SIGN can ever have is BAD even while no
     * SIGNS are found; one that a SIGN could have is NOT then.
     */
    private int againstSign(int k) {
        if (!within(k, 0, MOST_SIGNS - 1)) {
            return BAD;
        }
        if (!found) {
            return NOT;
        }
        return k < signs.size() ? NOTHING_AGAINST : BAD;
    }

    /** Works the READING anew only if something that it hangs on was told since the last time. */
    private boolean hasReading() {
        if (!found) {
            return false;
        }
        if (readingIsOld) {
            reading.work(signs, kinds);
            readingIsOld = false;
        }
        return reading.stands();
    }

    /** Numbers in a row. All indexes are tested here, so that none can throw elsewhere. */
    private static final class Row {
        private final int[] cells;

        Row(int length, int v) {
            cells = new int[length > 0 ? length : 0];
            fill(v);
        }

        int get(int i) {
            return i >= 0 && i < cells.length ? cells[i] : 0;
        }

        void put(int i, int v) {
            if (i >= 0 && i < cells.length) {
                cells[i] = v;
            }
        }

        void fill(int v) {
            for (int i = 0; i < cells.length; i++) {
                cells[i] = v;
            }
        }

        void copy(Row other) {
            for (int i = 0; i < cells.length; i++) {
                cells[i] = other.get(i);
            }
        }
    }

    /** Dots, black or white; what is beyond the edges is white. */
    private static final class Sheet {
        private final long[] rows = new long[HEIGHT];

        long at(int y) {
            return y >= 0 && y < rows.length ? rows[y] : 0L;
        }

        void put(int y, long dots) {
            if (y >= 0 && y < rows.length) {
                rows[y] = dots;
            }
        }

        boolean isBlack(int x, int y) {
            return x >= 0 && x < WIDTH && (at(y) >>> x & 1L) == 1L;
        }

        void wipe(int x, int y) {
            if (x >= 0 && x < WIDTH) {
                put(y, at(y) & ~(1L << x));
            }
        }

        void copy(Sheet other) {
            for (int y = 0; y < rows.length; y++) {
                rows[y] = other.at(y);
            }
        }

        /** Makes the dots of some rows black or white and tells how many of them changed. */
        int paint(int top, int height, long dots, boolean black) {
            int changed = 0;
            for (int i = 0; i < height; i++) {
                long was = at(top + i);
                long becomes = black ? was | dots : was & ~dots;
                changed += Long.bitCount(was ^ becomes);
                put(top + i, becomes);
            }
            return changed;
        }

        int blackDots() {
            int sum = 0;
            for (int y = 0; y < rows.length; y++) {
                sum += Long.bitCount(rows[y]);
            }
            return sum;
        }
    }

    /** The LINES of a board and THE STAFF among them, as they were when it was last looked at. */
    private static final class Lines {
        private static final int IN_A_STAFF = 5;

        private final Row firsts = new Row(HEIGHT, 0);
        private final Row lasts = new Row(HEIGHT, 0);
        private int size = 0;
        private int staffStart = NONE;

        void look(Sheet board, int leastRun) {
            size = 0;
            boolean inLine = false;
            for (int y = 0; y < HEIGHT; y++) {
                boolean rule = hasRun(board.at(y), leastRun);
                if (rule && !inLine) {
                    firsts.put(size, y);
                    size++;
                }
                if (rule) {
                    lasts.put(size - 1, y);
                }
                inLine = rule;
            }
            staffStart = firstStaff();
        }

        /** Each round leaves a dot black only if one more dot right of it is black too. */
        private static boolean hasRun(long dots, int length) {
            long starts = dots;
            for (int i = 1; i < length && starts != 0; i++) {
                starts &= starts >>> 1;
            }
            return starts != 0;
        }

        private int firstStaff() {
            for (int i = 0; i + IN_A_STAFF <= size; i++) {
                if (isEven(i)) {
                    return i;
                }
            }
            return NONE;
        }

        private boolean isEven(int start) {
            int least = HEIGHT;
            int greatest = 0;
            for (int i = start; i < start + IN_A_STAFF - 1; i++) {
                least = Math.min(least, gapBehind(i));
                greatest = Math.max(greatest, gapBehind(i));
            }
            return greatest - least <= 1;
        }

        private int gapBehind(int line) {
            return firsts.get(line + 1) - firsts.get(line);
        }

        int size() {
            return size;
        }

        boolean hasStaff() {
            return staffStart != NONE;
        }

        int gap() {
            return hasStaff() ? gapBehind(staffStart) : NONE;
        }

        int firstRow(int i) {
            return firsts.get(staffStart + i);
        }

        int lastRow(int i) {
            return lasts.get(staffStart + i);
        }

        /** The STEP of what has its middle in a row. */
        int stepAt(int middle) {
            int gap = gap();
            if (gap < 1) {
                return NO_STEP;
            }
            return Math.floorDiv(2 * (lastRow(IN_A_STAFF - 1) - middle), gap);
        }

        /** OFF: takes THE STAFF off a copy of the board that was looked at. */
        void takeOff(Sheet copy) {
            if (!hasStaff()) {
                return;
            }
            for (int i = 0; i < IN_A_STAFF; i++) {
                long touched = copy.at(firstRow(i) - 1) | copy.at(lastRow(i) + 1);
                for (int y = firstRow(i); y <= lastRow(i) && y < HEIGHT; y++) {
                    copy.put(y, copy.at(y) & touched);
                }
            }
        }
    }

    /** The SIGNS that were found last, and what a CORRECTOR said of them. */
    private static final class Signs {
        private static final int FACTS = 6;

        private final Sheet left = new Sheet();
        private final Row queue = new Row(WIDTH * HEIGHT, 0);
        // Facts stand in the order of finding; places tells where those of SIGN k are.
        private final Row facts = new Row(MOST_SIGNS * FACTS, 0);
        private final Row places = new Row(MOST_SIGNS, 0);
        private final Row told = new Row(MOST_SIGNS, NONE);
        private int size = 0;
        private int sizeBefore = NONE;

        /** Finds the SIGNS of a board; false: they are too many. */
        boolean gather(Sheet board, Lines ruled) {
            left.copy(board);
            ruled.takeOff(left);
            size = 0;
            for (int y = 0; y < HEIGHT; y++) {
                for (int x = 0; x < WIDTH && left.at(y) != 0; x++) {
                    if (left.isBlack(x, y) && !add(x, y)) {
                        return false;
                    }
                }
            }
            tellSteps(ruled);
            forgetIfOthers();
            return true;
        }

        private boolean add(int x, int y) {
            if (size >= MOST_SIGNS) {
                return false;
            }
            flood(size, x, y);
            order(size);
            size++;
            return true;
        }

        /** Takes all that hangs together with a dot off, and notes its facts at a place. */
        private void flood(int place, int startX, int startY) {
            int ahead = 0;
            left.wipe(startX, startY);
            queue.put(ahead, startY * WIDTH + startX);
            ahead++;
            putFact(place, AREA, 0);
            putFact(place, LEFT, startX);
            putFact(place, TOP, startY);
            putFact(place, RIGHT, startX);
            putFact(place, BOTTOM, startY);
            for (int i = 0; i < ahead && i < WIDTH * HEIGHT; i++) {
                int x = queue.get(i) % WIDTH;
                int y = queue.get(i) / WIDTH;
                include(place, x, y);
                ahead = queueNeighbours(x, y, ahead);
            }
        }

        private int queueNeighbours(int x, int y, int ahead) {
            int end = ahead;
            for (int ny = y - 1; ny <= y + 1; ny++) {
                for (int nx = x - 1; nx <= x + 1; nx++) {
                    if (left.isBlack(nx, ny)) {
                        left.wipe(nx, ny);
                        queue.put(end, ny * WIDTH + nx);
                        end++;
                    }
                }
            }
            return end;
        }

        private void include(int place, int x, int y) {
            putFact(place, AREA, factAt(place, AREA) + 1);
            putFact(place, LEFT, Math.min(factAt(place, LEFT), x));
            putFact(place, TOP, Math.min(factAt(place, TOP), y));
            putFact(place, RIGHT, Math.max(factAt(place, RIGHT), x));
            putFact(place, BOTTOM, Math.max(factAt(place, BOTTOM), y));
        }

        /** Signs come by their first dot, row by row, so one that is alike stays behind. */
        private void order(int place) {
            int k = place;
            while (k > 0 && isAhead(place, places.get(k - 1))) {
                places.put(k, places.get(k - 1));
                k--;
            }
            places.put(k, place);
        }

        private boolean isAhead(int place, int other) {
            if (factAt(place, LEFT) != factAt(other, LEFT)) {
                return factAt(place, LEFT) < factAt(other, LEFT);
            }
            return factAt(place, TOP) < factAt(other, TOP);
        }

        private void tellSteps(Lines ruled) {
            for (int i = 0; i < size; i++) {
                putFact(i, STEP, ruled.stepAt((factAt(i, TOP) + factAt(i, BOTTOM)) / 2));
            }
        }

        private void forgetIfOthers() {
            if (size != sizeBefore) {
                told.fill(NONE);
            }
            sizeBefore = size;
        }

        private int factAt(int place, int what) {
            return facts.get(place * FACTS + what);
        }

        private void putFact(int place, int what, int v) {
            facts.put(place * FACTS + what, v);
        }

        int size() {
            return size;
        }

        int fact(int k, int what) {
            return facts.get(places.get(k) * FACTS + what);
        }

        int boxHeight(int k) {
            return fact(k, BOTTOM) - fact(k, TOP) + 1;
        }

        int said(int k) {
            return told.get(k);
        }

        int say(int k, int what) {
            int was = told.get(k);
            told.put(k, what);
            return was;
        }

        int saidCount() {
            int sum = 0;
            for (int k = 0; k < MOST_SIGNS; k++) {
                sum += told.get(k) == NONE ? 0 : 1;
            }
            return sum;
        }
    }

    /** What the KINDS ask for and cost, THE DIRT and THE TIME. */
    private static final class Kinds {
        private static final int FIRST_LOW = 1, FIRST_HIGH = 2000, FIRST_HEIGHT = 1, FIRST_PRICE = 50;
        private static final int FIRST_DIRT = 60, FIRST_TIME = 16;
        private static final int ROW_PRICE = 5;

        private final Row lows = new Row(KINDS, FIRST_LOW);
        private final Row highs = new Row(KINDS, FIRST_HIGH);
        private final Row heights = new Row(KINDS, FIRST_HEIGHT);
        private final Row prices = new Row(KINDS, FIRST_PRICE);
        private int dirt = FIRST_DIRT;
        private int time = FIRST_TIME;

        void describe(int k, int low, int high, int height, int price) {
            lows.put(k, low);
            highs.put(k, high);
            heights.put(k, height);
            prices.put(k, price);
        }

        int changeDirt(int v) {
            int was = dirt;
            dirt = v;
            return was;
        }

        int changeTime(int v) {
            int was = time;
            time = v;
            return was;
        }

        int time() {
            return time;
        }

        /** COST of a SIGN of some AREA and height as a KIND, or as DIRT. */
        int costAs(int what, int area, int height) {
            if (what == DIRT) {
                return dirt;
            }
            int below = Math.max(0, lows.get(what) - area);
            int above = Math.max(0, area - highs.get(what));
            int lower = Math.max(0, heights.get(what) - height);
            return prices.get(what) + below + above + ROW_PRICE * lower;
        }
    }

    /**
     * The READINGS of some SIGNS. How far one has come is a state: the time since the last BAR, and
     * what a DOT would stand behind. All TIMES are even, so half of the time is enough.
     */
    private static final class Reading {
        private static final int BEHIND_OTHERS = 0, BEHIND_QUARTER = 1, BEHIND_HALF = 2, BEHINDS = 3;
        private static final int STATES = (MOST_TIME / 2 + 1) * BEHINDS;
        private static final int START = 0;
        // Far above what any READING costs, and far below what wraps when two are added.
        private static final int NEVER = 1000000;

        private final Row costs = new Row(MOST_SIGNS * READABLE, 0);
        private final Row nexts = new Row(STATES * READABLE, NONE);
        private final Row rests = new Row((MOST_SIGNS + 1) * STATES, NEVER);
        private final Row aheads = new Row(STATES, NEVER);
        private final Row coming = new Row(STATES, NEVER);
        private final Row meanings = new Row(MOST_SIGNS, DIRT);
        private final Row doubts = new Row(MOST_SIGNS, NONE);
        private final Row measureOf = new Row(MOST_SIGNS, NONE);
        private final Row times = new Row(MOST_SIGNS, 0);
        private int size = 0;
        private int states = 0;
        private int total = NEVER;
        private int measures = 0;
        private boolean doubtsAreOld = true;

        void work(Signs signs, Kinds kinds) {
            size = signs.size();
            weigh(signs, kinds);
            planStates(kinds.time());
            workRests(kinds.time());
            total = rests.get(START);
            doubtsAreOld = true;
            if (stands()) {
                choose();
                workMeasures();
            }
        }

        private void weigh(Signs signs, Kinds kinds) {
            for (int k = 0; k < size; k++) {
                int said = signs.said(k);
                for (int what = 0; what < READABLE; what++) {
                    int cost = said == what ? 0 : NEVER;
                    if (said == NONE) {
                        cost = kinds.costAs(what, signs.fact(k, AREA), signs.boxHeight(k));
                    }
                    costs.put(k * READABLE + what, cost);
                }
            }
        }

        private void planStates(int wholeTime) {
            states = (wholeTime / 2 + 1) * BEHINDS;
            for (int state = 0; state < states; state++) {
                for (int what = 0; what < READABLE; what++) {
                    nexts.put(state * READABLE + what, stateBehind(state, what, wholeTime));
                }
            }
        }

        /** The state behind a SIGN that is read so; NONE: it may not be. */
        private static int stateBehind(int state, int what, int wholeTime) {
            int time = timeOf(state);
            int behind = state % BEHINDS;
            switch (what) {
                case QUARTER:
                    return stateAt(time + signTime(what), BEHIND_QUARTER, wholeTime);
                case HALF:
                    return stateAt(time + signTime(what), BEHIND_HALF, wholeTime);
                case WHOLE:
                case REST:
                    return stateAt(time + signTime(what), BEHIND_OTHERS, wholeTime);
                case DOT:
                    return behind == BEHIND_OTHERS ? NONE
                            : stateAt(time + dotTime(behind), BEHIND_OTHERS, wholeTime);
                case BAR:
                    return mayEnd(time, wholeTime) ? START : NONE;
                default:
                    return state;
            }
        }

        private static int stateAt(int time, int behind, int wholeTime) {
            return time > wholeTime ? NONE : time / 2 * BEHINDS + behind;
        }

        private static int timeOf(int state) {
            return state / BEHINDS * 2;
        }

        private static boolean mayEnd(int time, int wholeTime) {
            return time == 0 || time == wholeTime;
        }

        private static int signTime(int kind) {
            switch (kind) {
                case QUARTER:
                case REST:
                    return 4;
                case HALF:
                    return 8;
                case WHOLE:
                    return 16;
                default:
                    return 0;
            }
        }

        private static int dotTime(int behind) {
            return signTime(behind == BEHIND_HALF ? HALF : QUARTER) / 2;
        }

        /** What the SIGNS from k on cost at least, from each state on; from the last SIGN to the first. */
        private void workRests(int wholeTime) {
            for (int state = 0; state < states; state++) {
                rests.put(size * STATES + state, mayEnd(timeOf(state), wholeTime) ? 0 : NEVER);
            }
            for (int k = size - 1; k >= 0; k--) {
                for (int state = 0; state < states; state++) {
                    rests.put(k * STATES + state, leastFrom(k, state, NONE));
                }
            }
        }

        private int leastFrom(int k, int state, int without) {
            int least = NEVER;
            for (int what = 0; what < READABLE; what++) {
                if (what != without) {
                    least = Math.min(least, costFrom(k, state, what));
                }
            }
            return least;
        }

        private int costFrom(int k, int state, int what) {
            int next = nexts.get(state * READABLE + what);
            if (next == NONE) {
                return NEVER;
            }
            return costs.get(k * READABLE + what) + rests.get((k + 1) * STATES + next);
        }

        private void choose() {
            int state = START;
            for (int k = 0; k < size; k++) {
                int what = firstBest(k, state);
                meanings.put(k, what);
                state = nexts.get(state * READABLE + what);
            }
        }

        private int firstBest(int k, int state) {
            for (int what = 0; what < DIRT; what++) {
                if (costFrom(k, state, what) == rests.get(k * STATES + state)) {
                    return what;
                }
            }
            return DIRT;
        }

        /** Dearer than BEST, so worked only when they are asked for. */
        private void workDoubts() {
            if (!doubtsAreOld) {
                return;
            }
            doubtsAreOld = false;
            aheads.fill(NEVER);
            aheads.put(START, 0);
            for (int k = 0; k < size; k++) {
                int other = leastOther(k);
                doubts.put(k, other < NEVER ? other - total : NONE);
                stepAhead(k);
            }
        }

        private int leastOther(int k) {
            int least = NEVER;
            for (int state = 0; state < states; state++) {
                if (aheads.get(state) < NEVER) {
                    least = Math.min(least, aheads.get(state) + leastFrom(k, state, meanings.get(k)));
                }
            }
            return least;
        }

        /** From what the SIGNS ahead of k cost, by the state behind them, to those with k. */
        private void stepAhead(int k) {
            coming.fill(NEVER);
            for (int state = 0; state < states; state++) {
                for (int what = 0; what < READABLE && aheads.get(state) < NEVER; what++) {
                    int next = nexts.get(state * READABLE + what);
                    int cost = aheads.get(state) + costs.get(k * READABLE + what);
                    if (next != NONE && cost < coming.get(next)) {
                        coming.put(next, cost);
                    }
                }
            }
            aheads.copy(coming);
        }

        private void workMeasures() {
            measures = 0;
            boolean open = false;
            int lastNote = NONE;
            for (int k = 0; k < size; k++) {
                int what = meanings.get(k);
                if (what == BAR) {
                    open = false;
                } else if (what == DOT) {
                    times.put(lastNote, times.get(lastNote) + times.get(lastNote) / 2);
                } else if (what != DIRT) {
                    measures += open ? 0 : 1;
                    open = true;
                    lastNote = k;
                    measureOf.put(k, measures - 1);
                    times.put(k, signTime(what));
                }
            }
        }

        boolean stands() {
            return total < NEVER;
        }

        int cost() {
            return total;
        }

        int meaning(int k) {
            return meanings.get(k);
        }

        int doubtOf(int k) {
            workDoubts();
            return doubts.get(k);
        }

        int mostDoubtful() {
            workDoubts();
            int first = NONE;
            for (int k = 0; k < size; k++) {
                if (doubts.get(k) != NONE && (first == NONE || doubts.get(k) < doubts.get(first))) {
                    first = k;
                }
            }
            return first;
        }

        int measureCount() {
            return measures;
        }

        /** The SIGN that is NOTE i of a MEASURE; NONE: there is no such NOTE. */
        int noteSign(int measure, int i) {
            int before = 0;
            for (int k = 0; k < size; k++) {
                if (meanings.get(k) <= WHOLE && measureOf.get(k) == measure) {
                    if (before == i) {
                        return k;
                    }
                    before++;
                }
            }
            return NONE;
        }

        int noteTime(int k) {
            return times.get(k);
        }
    }

    /** The SIGNS OF WAY, and the way that is PLAYED by them. */
    private static final class Ways {
        // Each MEASURE is gone back from once, and no more than all of them lie between two goings.
        private static final int MOST_TURNS = (MOST_MEASURES + 1) * MOST_MEASURES;

        private final Row signs = new Row(MOST_MEASURES, 0);
        private final Row gone = new Row(MOST_MEASURES, 0);

        int change(int measure, int v) {
            int was = signs.get(measure);
            signs.put(measure, v);
            return was;
        }

        int measurePlayed(int i, int measures) {
            gone.fill(0);
            int at = 0;
            int before = 0;
            for (int turn = 0; turn < MOST_TURNS && at < measures; turn++) {
                if (isLeftOut(at)) {
                    at++;
                } else if (before == i) {
                    return at;
                } else {
                    before++;
                    at = goOn(at);
                }
            }
            return NONE;
        }

        private boolean isLeftOut(int measure) {
            return signs.get(measure) == FIRST && gone.get(measure) == 1;
        }

        private int goOn(int measure) {
            int sign = signs.get(measure);
            if (sign < END || gone.get(measure) == 1) {
                return measure + 1;
            }
            gone.put(measure, 1);
            return sign == BACK ? 0 : latestBegin(measure);
        }

        private int latestBegin(int measure) {
            for (int m = measure; m > 0; m--) {
                if (signs.get(m) == BEGIN) {
                    return m;
                }
            }
            return 0;
        }
    }
}
