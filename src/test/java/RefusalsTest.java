import java.util.Arrays;
import java.util.function.Supplier;
import java.util.function.ToLongFunction;

/**
 * "Refused, and nothing changes, the first that fits: BAD .., NOT .., FULL." Each call that may be
 * refused, for each ground alone and for two at once, in each state; behind it everything that can
 * be asked is as if it had not been called.
 */
public final class RefusalsTest {
    private static final int QUARTER = 0, HALF = 1, WHOLE = 2, DOT = 4, BAR = 5, DIRT = 6;
    private static final int[] INTS = {-1, Due.LEAST, Due.MOST};

    private static String state;
    private static Supplier<ScoreReader> maker;
    private static long[] before;

    public static void main(String[] args) {
        in("new", ScoreReader::new, -1, false, false);
        in("no SIGN", RefusalsTest::noSign, 0, true, false);
        in("drawn", () -> drawn(2), -1, false, true);
        in("found", RefusalsTest::found, 5, true, true);
        in("asked", RefusalsTest::asked, 5, true, true);
        in("changed", RefusalsTest::changed, -1, false, true);
        in("no READING", RefusalsTest::noReading, 5, false, true);
        in("forty", RefusalsTest::forty, 40, true, true);
        in("full", RefusalsTest::full, -1, false, true);
        fullIsFull();
        Due.end("RefusalsTest");
    }

    // ---- states

    private static ScoreReader noSign() {
        ScoreReader x = new ScoreReader();
        x.find();
        return x;
    }

    /** A STAFF, five SIGNS about it, KINDS, THE TIME, RUN and SIGNS OF WAY that are not as at first. */
    private static ScoreReader drawn(int way) {
        ScoreReader x = Boards.staff(4, 4);
        x.run(30);
        x.ink(3, 1, 2, 2, true);
        x.ink(10, 6, 2, 2, true);
        x.ink(20, 4, 1, 17, true);
        x.ink(30, 14, 1, 1, true);
        x.ink(40, 24, 3, 2, true);
        for (int kind = 0; kind < 6; kind++) {
            x.kind(kind, 1 + kind % 3, 7 + kind, 1 + kind % 4, 11 * kind);
        }
        x.kind(BAR, 10, 40, 12, 0);
        x.set(0, 45);
        x.set(1, 8);
        x.sway(0, way);
        x.sway(39, 1);
        return x;
    }

    private static ScoreReader found() {
        ScoreReader x = drawn(2);
        x.find();
        x.correct(1, QUARTER);
        x.correct(2, BAR);
        x.correct(4, HALF);
        return x;
    }

    private static ScoreReader asked() {
        ScoreReader x = found();
        x.question();
        x.played(1);
        return x;
    }

    private static ScoreReader changed() {
        ScoreReader x = asked();
        x.ink(55, 29, 2, 1, true);
        return x;
    }

    private static ScoreReader noReading() {
        ScoreReader x = asked();
        x.correct(0, DOT);
        return x;
    }

    private static ScoreReader forty() {
        ScoreReader x = Boards.staff(12, 3);
        for (int k = 0; k < 40; k++) {
            x.ink(k, k % 2 * 2, 1, 1, true);
        }
        x.find();
        for (int k = 0; k < 40; k += 3) {
            x.correct(k, k % 2 == 0 ? WHOLE : DIRT);
        }
        x.sway(1, 4);
        x.sway(2, 3);
        return x;
    }

    private static ScoreReader full() {
        ScoreReader x = forty();
        x.ink(59, 31, 1, 1, true);
        x.find();
        return x;
    }

    // ---- calls

    private static void in(String name, Supplier<ScoreReader> make, int signs, boolean reading,
            boolean staff) {
        state = name;
        maker = make;
        before = Probe.of(make);
        board();
        kinds();
        ways();
        staffs(staff);
        signs(signs);
        readings(signs, reading);
    }

    /** The call on an object in the state, and all that the object answers behind it. */
    private static void refused(String call, long due, ToLongFunction<ScoreReader> function) {
        long[] behind = Probe.of(() -> {
            ScoreReader x = maker.get();
            Due.is(state + ": " + call, function.applyAsLong(x), due);
            return x;
        });
        Due.is(state + ": behind " + call + " an answer is another, the first at",
                Arrays.mismatch(before, behind), -1);
    }

    private static void board() {
        int[] rows = {32, -1, Due.LEAST, Due.MOST};
        for (int y : rows) {
            refused("row(" + y + ", 5)", Due.BAD, x -> x.row(y, 5L));
        }
        long[] dots = {1L << 60, 1L << 60 | 1L, -1L, Long.MIN_VALUE, Long.MAX_VALUE};
        for (long d : dots) {
            refused("row(9, " + d + ")", Due.BAD, x -> x.row(9, d));
            refused("row(32, " + d + ")", Due.BAD, x -> x.row(32, d));
        }
        int[][] boxes = {{0, 0, 0, 1}, {0, 0, 61, 1}, {0, 0, 1, 0}, {0, 0, 1, 33}, {-1, 9, 3, 1},
            {9, -1, 1, 3}, {58, 9, 3, 1}, {9, 30, 1, 3}, {60, 0, 1, 1}, {0, 32, 1, 1}, {60, 32, 61, 33},
            {Due.MOST, 0, 2, 1}, {0, Due.MOST, 1, 2}, {0, 0, Due.MOST, 1}, {0, 0, 1, Due.MOST},
            {Due.LEAST, 0, 60, 1}, {0, Due.LEAST, 1, 32}, {5, 5, Due.LEAST, 1}, {5, 5, 1, Due.LEAST}};
        for (int[] b : boxes) {
            refused("ink " + Arrays.toString(b), Due.BAD, x -> x.ink(b[0], b[1], b[2], b[3], true));
            refused("ink white " + Arrays.toString(b), Due.BAD,
                    x -> x.ink(b[0], b[1], b[2], b[3], false));
        }
        int[] runs = {9, 61, 0, -1, Due.LEAST, Due.MOST};
        for (int v : runs) {
            refused("run(" + v + ")", Due.BAD, x -> x.run(v));
        }
        int[][] dot = {{-1, 0}, {60, 0}, {0, -1}, {0, 32}, {60, 32}, {Due.LEAST, Due.LEAST},
            {Due.MOST, Due.MOST}};
        for (int[] d : dot) {
            refused("dot " + Arrays.toString(d), Due.BAD, x -> x.dot(d[0], d[1]));
        }
    }

    private static void kinds() {
        int[][] wrong = {{-1, 1, 9, 1, 5}, {6, 1, 9, 1, 5}, {0, -1, 9, 1, 5}, {1, 0, 2001, 1, 5},
            {2, 2001, 2001, 1, 5}, {2, 5, 4, 1, 5}, {3, 1, 9, 0, 5}, {4, 1, 9, 33, 5}, {5, 1, 9, 1, -1},
            {5, 1, 9, 1, 101}, {6, 5, 4, 1, 5}, {0, 1, 9, 0, 101}, {0, -1, 2001, 33, -1},
            {Due.MOST, 1, 9, 1, 5}, {0, Due.LEAST, Due.MOST, 1, 5}, {0, 1, 9, Due.LEAST, Due.MOST}};
        for (int[] a : wrong) {
            refused("kind " + Arrays.toString(a), Due.BAD, x -> x.kind(a[0], a[1], a[2], a[3], a[4]));
        }
        int[][] sets = {{0, -1}, {0, 1001}, {1, 1}, {1, 49}, {2, 16}, {-1, 16}, {2, -1}, {-1, 1001},
            {Due.LEAST, 2}, {Due.MOST, 2}, {0, Due.LEAST}, {1, Due.MOST}};
        for (int[] a : sets) {
            refused("set " + Arrays.toString(a), Due.BAD, x -> x.set(a[0], a[1]));
        }
    }

    private static void ways() {
        int[][] wrong = {{-1, 1}, {40, 1}, {0, -1}, {0, 5}, {39, 5}, {40, 5}, {-1, -1}, {Due.LEAST, 1},
            {Due.MOST, 1}, {1, Due.LEAST}, {1, Due.MOST}};
        for (int[] a : wrong) {
            refused("sway " + Arrays.toString(a), Due.BAD, x -> x.sway(a[0], a[1]));
        }
        int[] counts = {-1, 5, Due.LEAST, Due.MOST};
        for (int what : counts) {
            refused("count(" + what + ")", Due.BAD, x -> x.count(what));
        }
    }

    private static void staffs(boolean staff) {
        int[][] wrong = {{-1, 0}, {5, 0}, {0, -1}, {0, 2}, {5, 2}, {-1, -1}, {Due.LEAST, 1}, {4, Due.MOST}};
        for (int[] a : wrong) {
            refused("staff " + Arrays.toString(a), Due.BAD, x -> x.staff(a[0], a[1]));
        }
        if (!staff) {
            refused("staff(0, 0)", Due.NOT, x -> x.staff(0, 0));
            refused("staff(4, 1)", Due.NOT, x -> x.staff(4, 1));
        }
    }

    /** 'signs' of them are found; -1: they are not found. */
    private static void signs(int signs) {
        int[] whats = {-1, 7, Due.LEAST, Due.MOST};
        for (int what : whats) {
            refused("sign(0, " + what + ")", Due.LEAST, x -> x.sign(0, what));
            refused("sign(-1, " + what + ")", Due.LEAST, x -> x.sign(-1, what));
        }
        int[] says = {-2, 7, Due.LEAST, Due.MOST};
        for (int what : says) {
            refused("correct(0, " + what + ")", Due.BAD, x -> x.correct(0, what));
            refused("correct(39, " + what + ")", Due.BAD, x -> x.correct(39, what));
            refused("correct(40, " + what + ")", Due.BAD, x -> x.correct(40, what));
        }
        for (int what = -1; what <= 6; what++) {
            int v = what;
            for (int k : INTS) {
                refused("correct(" + k + ", " + v + ")", Due.BAD, x -> x.correct(k, v));
                refused("sign(" + k + ", " + v + ")", Due.LEAST, x -> x.sign(k, v));
            }
            refused("correct(40, " + v + ")", Due.BAD, x -> x.correct(40, v));
            if (signs == -1) {
                refused("correct(0, " + v + ")", Due.NOT, x -> x.correct(0, v));
                refused("correct(39, " + v + ")", Due.NOT, x -> x.correct(39, v));
                refused("sign(0, " + v + ")", Due.LEAST, x -> x.sign(0, v));
            } else {
                refused("correct(" + signs + ", " + v + ")", Due.BAD, x -> x.correct(signs, v));
                refused("sign(" + signs + ", " + v + ")", Due.LEAST, x -> x.sign(signs, v));
            }
        }
    }

    private static void readings(int signs, boolean reading) {
        int[] played = {-1, 200, Due.LEAST, Due.MOST};
        for (int i : played) {
            refused("played(" + i + ")", Due.BAD, x -> x.played(i));
        }
        int[] never = {-1, 40, Due.LEAST, Due.MOST};
        for (int k : never) {
            refused("read(" + k + ")", Due.BAD, x -> x.read(k));
            refused("doubt(" + k + ")", Due.BAD, x -> x.doubt(k));
        }
        if (signs != -1) {
            refused("read(" + signs + ")", Due.BAD, x -> x.read(signs));
            refused("doubt(" + signs + ")", Due.BAD, x -> x.doubt(signs));
        }
        int[][] notes = {{-1, 0, 0}, {40, 0, 0}, {0, -1, 0}, {0, 40, 0}, {0, 0, -1}, {0, 0, 3},
            {-1, -1, -1}, {Due.LEAST, 0, 0}, {0, Due.MOST, 0}, {0, 0, Due.LEAST}};
        for (int[] a : notes) {
            refused("note " + Arrays.toString(a), Due.LEAST, x -> x.note(a[0], a[1], a[2]));
        }
        if (!reading) {
            refused("best()", Due.NOT, ScoreReader::best);
            refused("question()", Due.NOT, ScoreReader::question);
            refused("measures()", Due.NOT, ScoreReader::measures);
            refused("read(0)", Due.NOT, x -> x.read(0));
            refused("doubt(0)", Due.NOT, x -> x.doubt(0));
            refused("played(0)", Due.NOT, x -> x.played(0));
            refused("played(199)", Due.NOT, x -> x.played(199));
            refused("note(0, 0, 0)", Due.LEAST, x -> x.note(0, 0, 0));
        }
    }

    // "find: .. FULL (then none are)": and nothing else is another behind it.
    private static void fullIsFull() {
        state = "full, once more";
        maker = RefusalsTest::full;
        before = Probe.of(maker);
        refused("find()", Due.FULL, ScoreReader::find);
        state = "full, not tried yet";
        maker = () -> {
            ScoreReader x = forty();
            x.ink(59, 31, 1, 1, true);
            return x;
        };
        before = Probe.of(maker);
        refused("find()", Due.FULL, ScoreReader::find);
    }
}
