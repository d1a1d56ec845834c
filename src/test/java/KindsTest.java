/** Promises 10 to 12: kinds, and what a corrector says. */
public final class KindsTest {
    public static void main(String[] args) {
        promise10AtFirst();
        promise10Costs();
        promise10Refused();
        promise11Dirt();
        promise11Time();
        promise12Correct();
        promise12HoldsByNumber();
        promise12Refused();
        Due.end("KindsTest");
    }

    private static void promise10AtFirst() {
        ScoreReader x = Boards.signs(1);
        Due.is("at first: best()", x.best(), 50);
        Due.is("at first: a WHOLE has THE TIME", x.read(0), 2);
        x.ink(0, 0, 60, 32, true);
        x.find();
        Due.is("at first: 1920 are not above HIGH", x.best(), 50);
    }

    /** One sign of AREA 12 and height 3, read as a BAR, all else dear. */
    private static void promise10Costs() {
        cost(12, 12, 3, 7, 7);
        cost(0, 2000, 1, 0, 0);
        cost(13, 20, 3, 7, 8);
        cost(20, 20, 3, 7, 15);
        cost(0, 11, 3, 7, 8);
        cost(0, 0, 1, 0, 12);
        cost(0, 2000, 4, 7, 12);
        cost(0, 2000, 6, 0, 15);
        cost(0, 2000, 2, 100, 100);
        cost(14, 20, 5, 3, 15);
        cost(2000, 2000, 32, 100, 1000);
    }

    private static void cost(int low, int high, int least, int price, int want) {
        ScoreReader x = dear();
        Due.is("kind(5)", x.kind(5, low, high, least, price), 1);
        Due.is("COST with " + low + ", " + high + ", " + least + ", " + price, x.best(), want);
    }

    private static ScoreReader dear() {
        ScoreReader x = new ScoreReader();
        x.ink(20, 10, 4, 3, true);
        for (int kind = 0; kind < 5; kind++) {
            x.kind(kind, 2000, 2000, 32, 100);
        }
        x.set(0, 1000);
        x.find();
        return x;
    }

    private static void promise10Refused() {
        ScoreReader x = Boards.signs(1);
        x.kind(2, 1, 5, 1, 33);
        int before = x.best();
        int[][] wrong = {
            {-1, 0, 0, 1, 0}, {6, 0, 0, 1, 0}, {2, -1, 0, 1, 0}, {2, 0, -1, 1, 0}, {2, 5, 4, 1, 0},
            {2, 0, 2001, 1, 0}, {2, 2001, 2001, 1, 0}, {2, 0, 0, 0, 0}, {2, 0, 0, 33, 0},
            {2, 0, 0, 1, -1}, {2, 0, 0, 1, 101}, {Due.LEAST, 0, 0, 1, 0}, {Due.MOST, 0, 0, 1, 0},
            {2, Due.LEAST, 0, 1, 0}, {2, 0, Due.MOST, 1, 0}, {2, 0, 0, Due.LEAST, 0},
            {2, 0, 0, Due.MOST, 0}, {2, 0, 0, 1, Due.LEAST}, {2, 0, 0, 1, Due.MOST}};
        for (int[] a : wrong) {
            Due.is("kind " + java.util.Arrays.toString(a), x.kind(a[0], a[1], a[2], a[3], a[4]), Due.BAD);
        }
        Due.is("kind refused: best()", x.best(), before);
        Due.is("kind: the least of all", x.kind(0, 0, 0, 1, 0), 1);
        Due.is("kind: the most of all", x.kind(5, 2000, 2000, 32, 100), 1);
        Due.is("kind ends nothing found", x.count(0), 1);
    }

    private static void promise11Dirt() {
        ScoreReader x = Boards.signs(1, 1);
        Due.is("set(0, 7)", x.set(0, 7), 60);
        Due.is("two DIRT", x.best(), 14);
        Due.is("set(0, 0)", x.set(0, 0), 7);
        Due.is("two DIRT for nothing", x.best(), 0);
        Due.is("set(0, 1000)", x.set(0, 1000), 0);
        Due.is("no DIRT", x.best(), 100);
        int[] wrong = {-1, 1001, Due.LEAST, Due.MOST};
        for (int v : wrong) {
            Due.is("set(0, " + v + ")", x.set(0, v), Due.BAD);
        }
        Due.is("set refused: set(0, 1)", x.set(0, 1), 1000);
        int[] ways = {-1, 2, Due.LEAST, Due.MOST};
        for (int way : ways) {
            Due.is("set(" + way + ", 10)", x.set(way, 10), Due.BAD);
        }
        Due.is("set refused: best()", x.best(), 2);
    }

    private static void promise11Time() {
        ScoreReader x = Boards.said(0, 0, 0);
        Due.is("12 are not 16", x.best(), Due.NOT);
        Due.is("set(1, 12)", x.set(1, 12), 16);
        Due.is("12 are THE TIME", x.best(), 0);
        Due.is("set(1, 2)", x.set(1, 2), 12);
        Due.is("12 are not 2", x.best(), Due.NOT);
        Due.is("set(1, 48)", x.set(1, 48), 2);
        Due.is("12 are not 48", x.best(), Due.NOT);
        int[] wrong = {1, 0, -1, 49, Due.LEAST, Due.MOST};
        for (int v : wrong) {
            Due.is("set(1, " + v + ")", x.set(1, v), Due.BAD);
        }
        Due.is("set refused: set(1, 13)", x.set(1, 13), 48);
        Due.is("12 are not 13", x.best(), Due.NOT);
        ScoreReader y = Boards.said(2, 2, 2);
        y.set(1, 48);
        Due.is("three WHOLES are 48", y.best(), 0);
        y.set(1, 47);
        Due.is("three WHOLES are not 47", y.best(), Due.NOT);
    }

    private static void promise12Correct() {
        ScoreReader x = Boards.signs(1, 1);
        Due.is("correct(1, 6)", x.correct(1, 6), Due.NONE);
        Due.is("correct: read(1)", x.read(1), 6);
        Due.is("correct: it costs 0", x.best(), 50);
        Due.is("correct(1, 5)", x.correct(1, 5), 6);
        Due.is("correct: read(1) anew", x.read(1), 5);
        Due.is("correct: sign(1, 6)", x.sign(1, 6), 5);
        Due.is("correct: count(3)", x.count(3), 1);
        Due.is("correct: nothing else can it be", x.doubt(1), Due.NONE);
        Due.is("correct(1, -1)", x.correct(1, -1), 5);
        Due.is("correct: taken back", x.count(3), 0);
        Due.is("correct: taken back, sign(1, 6)", x.sign(1, 6), Due.NONE);
        Due.is("correct: taken back, best()", x.best(), 100);
        Due.is("correct(1, -1) again", x.correct(1, -1), Due.NONE);
        for (int what = 0; what <= 6; what++) {
            Due.is("correct(0, " + what + ")", x.correct(0, what), what - 1);
        }
    }

    private static void promise12HoldsByNumber() {
        ScoreReader x = Boards.signs(1, 1);
        x.correct(1, 3);
        x.ink(0, 20, 1, 1, true);
        x.ink(5, 0, 1, 1, false);
        Due.is("as many others: find()", x.find(), 2);
        Due.is("as many others: it holds by number", x.sign(1, 6), 3);
        x.ink(50, 20, 1, 1, true);
        Due.is("not found: what was said stays", x.count(3), 1);
        Due.is("more: find()", x.find(), 3);
        Due.is("more: it is forgotten", x.count(3), 0);
        x.correct(2, 1);
        x.ink(50, 20, 1, 1, false);
        x.find();
        x.ink(50, 20, 1, 1, true);
        x.find();
        Due.is("less, then as many: it stays forgotten", x.count(3), 0);
        Due.is("find() twice", x.correct(2, 1), Due.NONE);
        x.find();
        Due.is("find() twice: it holds", x.sign(2, 6), 1);
    }

    private static void promise12Refused() {
        ScoreReader x = Boards.signs(1, 1);
        x.correct(0, 2);
        int[][] wrong = {{-1, 0}, {2, 0}, {40, 0}, {0, -2}, {0, 7}, {Due.LEAST, 0}, {Due.MOST, 0},
            {0, Due.LEAST}, {0, Due.MOST}};
        for (int[] a : wrong) {
            Due.is("correct(" + a[0] + ", " + a[1] + ")", x.correct(a[0], a[1]), Due.BAD);
        }
        Due.is("correct refused: count(3)", x.count(3), 1);
        Due.is("correct refused: sign(0, 6)", x.sign(0, 6), 2);
        x.row(31, 1L);
        Due.is("correct not found", x.correct(0, 3), Due.NOT);
        Due.is("correct not found: no number of a SIGN", x.correct(40, 3), Due.BAD);
        Due.is("correct not found: below 0", x.correct(-1, 3), Due.BAD);
        Due.is("correct not found: BAD ahead", x.correct(0, 7), Due.BAD);
        x.row(31, 0L);
        x.find();
        Due.is("correct not found: nothing was said", x.sign(0, 6), 2);
    }
}
