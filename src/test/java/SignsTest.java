/** Promises 8 and 9: signs. */
public final class SignsTest {
    public static void main(String[] args) {
        promise8Touching();
        promise8Order();
        promise8Off();
        promise8OffAtTheEdges();
        promise8Full();
        promise9Facts();
        promise9Step();
        promise9StepOfBoxes();
        promise9Refused();
        Due.end("SignsTest");
    }

    private static void promise8Touching() {
        ScoreReader x = new ScoreReader();
        Due.is("find() of white", x.find(), 0);
        x.ink(5, 5, 1, 1, true);
        x.ink(6, 6, 1, 1, true);
        x.ink(5, 7, 1, 1, true);
        Due.is("find: corners touch", x.find(), 1);
        x.ink(8, 6, 1, 1, true);
        Due.is("find: a column between", x.find(), 2);
        x.ink(5, 9, 1, 1, true);
        Due.is("find: a row between", x.find(), 3);
        x.row(0, 1L << 59);
        x.row(1, 1L);
        Due.is("find: the edges do not touch", x.find(), 5);
        ScoreReader z = new ScoreReader();
        z.ink(5, 5, 1, 4, true);
        z.ink(5, 8, 4, 1, true);
        z.ink(8, 6, 1, 1, true);
        Due.is("find: one reaches under another, a row between", z.find(), 2);
        z.ink(8, 7, 1, 1, true);
        Due.is("find: the row between is bridged", z.find(), 1);
        x.ink(0, 0, 60, 32, true);
        Due.is("find: all black", x.find(), 1);
        Due.is("find: all black, AREA", x.sign(0, 0), 1920);
        Due.is("find: all black, count(4)", x.count(4), 1920);
    }

    private static void promise8Order() {
        ScoreReader x = new ScoreReader();
        x.ink(10, 0, 1, 1, true);
        x.ink(0, 20, 1, 1, true);
        x.ink(5, 10, 2, 1, true);
        x.ink(5, 4, 3, 1, true);
        Due.is("order: find()", x.find(), 4);
        Due.is("order: least x", x.sign(0, 2), 20);
        Due.is("order: then least y", x.sign(1, 2), 4);
        Due.is("order: then the lower", x.sign(2, 2), 10);
        Due.is("order: greatest x", x.sign(3, 1), 10);
        Due.is("order: its AREA goes with it", x.sign(1, 0), 3);

        ScoreReader y = new ScoreReader();
        y.row(0, 1L << 3 | 1L << 7);
        y.row(1, 1L << 2 | 1L << 7);
        y.row(2, 1L << 1 | 1L << 6);
        y.row(3, 1L << 1 | 1L << 5);
        y.row(4, 1L << 4);
        y.row(5, 1L << 3);
        y.row(6, 1L << 2);
        y.row(7, 1L << 1);
        Due.is("order, one box corner: find()", y.find(), 2);
        Due.is("order, one box corner: AREA of the first", y.sign(0, 0), 4);
        Due.is("order, one box corner: AREA of the other", y.sign(1, 0), 8);
        for (int k = 0; k < 2; k++) {
            Due.is("order, one box corner: least x", y.sign(k, 1), 1);
            Due.is("order, one box corner: least y", y.sign(k, 2), 0);
        }
    }

    private static void promise8Off() {
        ScoreReader x = Boards.staff(8, 4);
        Due.is("off: the staff alone", x.find(), 0);
        Due.is("off: THE BOARD stays", x.count(4), 300);
        x.ink(10, 7, 1, 1, true);
        Due.is("off: above keeps", x.find(), 1);
        Due.is("off: AREA", x.sign(0, 0), 2);
        x.ink(20, 9, 1, 1, true);
        Due.is("off: below keeps", x.find(), 2);
        Due.is("off: AREA", x.sign(1, 0), 2);
        x.ink(30, 10, 1, 1, true);
        Due.is("off: between lines", x.find(), 3);
        Due.is("off: AREA", x.sign(2, 0), 1);
        x.row(9, Boards.BLACK);
        Due.is("off: two rows, kept by one above", x.find(), 2);
        Due.is("off: AREA, both rows kept", x.sign(0, 0), 3);
        Due.is("off: what touches below two rows", x.sign(1, 0), 3);
        x.row(12, Boards.BLACK >>> 30);
        Due.is("off: without a staff all stay", x.find(), 5);
    }

    private static void promise8OffAtTheEdges() {
        ScoreReader x = new ScoreReader();
        int[] rows = {0, 8, 16, 24, 31};
        for (int y : rows) {
            x.row(y, Boards.BLACK);
        }
        Due.is("edges: find()", x.find(), 0);
        x.ink(59, 1, 1, 1, true);
        x.ink(0, 30, 1, 1, true);
        Due.is("edges: two signs", x.find(), 2);
        Due.is("edges: the lowest row is kept", x.sign(0, 4), 31);
        Due.is("edges: the uppermost row is kept", x.sign(1, 2), 0);

        ScoreReader z = new ScoreReader();
        int[] six = {1, 5, 9, 13, 17, 26};
        for (int y : six) {
            z.row(y, Boards.BLACK);
        }
        Due.is("a sixth line stays: find()", z.find(), 1);
        Due.is("a sixth line stays: AREA", z.sign(0, 0), 60);
        z.row(5, Boards.BLACK & ~(1L << 45));
        z.ink(50, 4, 1, 1, true);
        Due.is("dots beside the run go off too", z.find(), 2);
        Due.is("dots beside the run: AREA of what is kept", z.sign(1, 0), 2);
    }

    private static void promise8Full() {
        ScoreReader x = new ScoreReader();
        for (int i = 0; i < 40; i++) {
            x.ink(i % 20 * 3, i / 20 * 3, 1, 1, true);
        }
        Due.is("40 signs", x.find(), 40);
        x.correct(39, 2);
        x.ink(0, 31, 1, 1, true);
        Due.is("41 signs", x.find(), Due.FULL);
        Due.is("41 signs: none are told", x.count(0), Due.NONE);
        Due.is("41 signs: sign(0, 0)", x.sign(0, 0), Due.LEAST);
        Due.is("41 signs: correct(0, 0)", x.correct(0, 0), Due.NOT);
        Due.is("41 signs: best()", x.best(), Due.NOT);
        Due.is("41 signs: what was said stays", x.count(3), 1);
        x.ink(0, 31, 1, 1, false);
        Due.is("40 signs again", x.find(), 40);
        Due.is("FULL is not counted", x.sign(39, 6), 2);
        for (int y = 0; y < 32; y += 2) {
            x.row(y, 0x555555555555555L);
        }
        Due.is("480 signs", x.find(), Due.FULL);
    }

    private static void promise9Facts() {
        ScoreReader x = new ScoreReader();
        x.ink(7, 3, 4, 1, true);
        x.ink(10, 4, 1, 5, true);
        x.find();
        int[] want = {9, 7, 3, 10, 8, -1001, -1};
        for (int what = 0; what < 7; what++) {
            Due.is("sign(0, " + what + ")", x.sign(0, what), want[what]);
        }
        x.correct(0, 6);
        Due.is("sign(0, 6) said", x.sign(0, 6), 6);
    }

    private static void promise9Step() {
        int[] four = {4, 8, 12, 16, 20};
        int[] five = {5, 10, 15, 20, 25};
        int[] three = {15, 18, 21, 24, 27};
        steps(four, new int[] {0, 1, 2, 6, 18, 22, 23, 26, 31}, new int[] {10, 9, 9, 7, 1, -1, -2, -3, -6});
        steps(five, new int[] {0, 1, 13, 22, 23, 27, 28, 31}, new int[] {10, 9, 4, 1, 0, -1, -2, -3});
        steps(three, new int[] {0, 1, 12, 13, 29, 30, 31}, new int[] {18, 17, 10, 9, -2, -2, -3});
        steps(new int[] {2, 4, 6, 8, 10}, new int[] {0, 12, 31}, new int[] {10, -2, -21});
        steps(new int[] {0, 4, 9, 13, 18}, new int[] {20, 25, 6}, new int[] {-1, -4, 6});
        steps(new int[] {0, 5, 9, 14, 18}, new int[] {20, 23, 25}, new int[] {-1, -2, -3});
    }

    private static void steps(int[] lines, int[] rows, int[] want) {
        for (int i = 0; i < rows.length; i++) {
            ScoreReader x = new ScoreReader();
            for (int y : lines) {
                x.row(y, Boards.BLACK);
            }
            x.ink(0, rows[i], 1, 1, true);
            String call = "STEP at " + rows[i] + " with " + java.util.Arrays.toString(lines);
            Due.is(call + ": find()", x.find(), 1);
            Due.is(call + ": AREA", x.sign(0, 0), 1);
            Due.is(call, x.sign(0, 5), want[i]);
        }
    }

    /** The fifth line's rows are 20 and 21. */
    private static void promise9StepOfBoxes() {
        ScoreReader x = Boards.staff(4, 4);
        x.row(21, Boards.BLACK);
        x.ink(7, 1, 1, 2, true);
        x.ink(9, 0, 1, 2, true);
        x.ink(20, 14, 1, 11, true);
        Due.is("STEP of boxes: find()", x.find(), 3);
        Due.is("STEP: 21 less the middle of 1 and 2, by 2", x.sign(0, 5), 10);
        Due.is("STEP: 21 less the middle of 0 and 1, by 2", x.sign(1, 5), 10);
        Due.is("STEP: 21 less the middle of 14 and 24, by 2", x.sign(2, 5), 1);
        x.row(8, 0L);
        x.find();
        Due.is("STEP without a staff", x.sign(0, 5), -1001);
    }

    private static void promise9Refused() {
        ScoreReader x = Boards.signs(1, 2);
        int[][] wrong = {{-1, 0}, {2, 0}, {0, -1}, {0, 7}, {40, 0}, {Due.LEAST, 0}, {Due.MOST, 0},
            {0, Due.LEAST}, {0, Due.MOST}};
        for (int[] a : wrong) {
            Due.is("sign(" + a[0] + ", " + a[1] + ")", x.sign(a[0], a[1]), Due.LEAST);
        }
        x.row(31, 1L);
        Due.is("sign(0, 0) not found", x.sign(0, 0), Due.LEAST);
    }
}
