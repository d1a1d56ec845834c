/** Promises 1 to 7: the board. */
public final class BoardTest {
    public static void main(String[] args) {
        promise1WhiteBoard();
        promise2Row();
        promise2RowRefused();
        promise3Ink();
        promise3InkRefused();
        promise4Run();
        promise5Dot();
        promise6Lines();
        promise7Staff();
        promise7StaffIsTheFirstEvenFive();
        changesEndWhatWasFound();
        Due.end("BoardTest");
    }

    private static void promise1WhiteBoard() {
        ScoreReader x = new ScoreReader();
        for (int i = 0; i < 60; i++) {
            Due.is("new: dot(" + i + ", " + i % 32 + ")", x.dot(i, i % 32), 0);
        }
        Due.is("new: count(4)", x.count(4), 0);
        Due.is("new: lines()", x.lines(), 0);
        Due.is("new: count(0)", x.count(0), Due.NONE);
        Due.is("new: count(3)", x.count(3), 0);
        Due.is("new: best()", x.best(), Due.NOT);
    }

    private static void promise2Row() {
        ScoreReader x = new ScoreReader();
        Due.is("row(0, 5)", x.row(0, 5L), 2);
        Due.is("row: dot(0, 0)", x.dot(0, 0), 1);
        Due.is("row: dot(1, 0)", x.dot(1, 0), 0);
        Due.is("row: dot(2, 0)", x.dot(2, 0), 1);
        Due.is("row(31, 1 << 59)", x.row(31, 1L << 59), 1);
        Due.is("row: dot(59, 31)", x.dot(59, 31), 1);
        Due.is("row(0, 2): what was there goes", x.row(0, 2L), 1);
        Due.is("row: dot(0, 0) anew", x.dot(0, 0), 0);
        Due.is("row: dot(1, 0) anew", x.dot(1, 0), 1);
        Due.is("row(4, all)", x.row(4, Boards.BLACK), 60);
        Due.is("row: count(4)", x.count(4), 62);
        Due.is("row(4, 0)", x.row(4, 0L), 0);
        Due.is("row: count(4) less a row", x.count(4), 2);
    }

    private static void promise2RowRefused() {
        ScoreReader x = new ScoreReader();
        x.row(3, 7L);
        x.find();
        int[] rows = {-1, 32, Due.LEAST, Due.MOST};
        for (int y : rows) {
            Due.is("row(" + y + ", 1)", x.row(y, 1L), Due.BAD);
        }
        long[] dots = {-1L, 1L << 60, Long.MIN_VALUE, Long.MAX_VALUE};
        for (long d : dots) {
            Due.is("row(3, " + d + ")", x.row(3, d), Due.BAD);
        }
        Due.is("row refused: count(4)", x.count(4), 3);
        Due.is("row refused: still found", x.count(0), 1);
    }

    private static void promise3Ink() {
        ScoreReader x = new ScoreReader();
        Due.is("ink 3 by 2", x.ink(10, 5, 3, 2, true), 6);
        Due.is("ink 3 by 2 once more", x.ink(10, 5, 3, 2, true), 0);
        Due.is("ink over a part", x.ink(12, 6, 2, 2, true), 3);
        Due.is("ink: left of it", x.dot(9, 5), 0);
        Due.is("ink: its first", x.dot(10, 5), 1);
        Due.is("ink: its last", x.dot(12, 6), 1);
        Due.is("ink: right above the part", x.dot(13, 5), 0);
        Due.is("ink: above", x.dot(10, 4), 0);
        Due.is("ink white", x.ink(11, 5, 1, 2, false), 2);
        Due.is("ink: left between", x.dot(11, 6), 0);
        Due.is("ink: count(4)", x.count(4), 7);
        Due.is("ink the whole", x.ink(0, 0, 60, 32, true), 1913);
        Due.is("ink: count(4) of the whole", x.count(4), 1920);
        Due.is("ink the last dot", x.ink(59, 31, 1, 1, false), 1);
        Due.is("ink: the last dot", x.dot(59, 31), 0);
        Due.is("ink the last column", x.ink(59, 0, 1, 32, false), 31);
        Due.is("ink the last row", x.ink(0, 31, 60, 1, false), 59);
    }

    private static void promise3InkRefused() {
        ScoreReader x = new ScoreReader();
        x.ink(1, 1, 2, 2, true);
        x.find();
        int[][] boxes = {
            {0, 0, 0, 1}, {0, 0, 1, 0}, {0, 0, 61, 1}, {0, 0, 1, 33}, {-1, 0, 1, 1}, {0, -1, 1, 1},
            {60, 0, 1, 1}, {0, 32, 1, 1}, {59, 0, 2, 1}, {0, 31, 1, 2}, {1, 0, 60, 1}, {0, 1, 1, 32},
            {Due.MOST, 0, 2, 1}, {0, Due.MOST, 1, 2}, {Due.LEAST, 0, 1, 1}, {0, Due.LEAST, 1, 1},
            {0, 0, Due.MOST, 1}, {0, 0, 1, Due.MOST}, {0, 0, Due.LEAST, 1}, {0, 0, 1, Due.LEAST},
            {Due.MOST, Due.MOST, Due.MOST, Due.MOST}, {-2, 0, 60, 1}, {0, -2, 1, 32}};
        for (int[] b : boxes) {
            String call = "ink(" + b[0] + ", " + b[1] + ", " + b[2] + ", " + b[3] + ")";
            Due.is(call + " black", x.ink(b[0], b[1], b[2], b[3], true), Due.BAD);
            Due.is(call + " white", x.ink(b[0], b[1], b[2], b[3], false), Due.BAD);
        }
        Due.is("ink refused: count(4)", x.count(4), 4);
        Due.is("ink refused: still found", x.count(0), 1);
    }

    private static void promise4Run() {
        ScoreReader x = new ScoreReader();
        x.row(2, (1L << 12) - 1);
        Due.is("run: 12 dots are no RULE at 40", x.lines(), 0);
        Due.is("run(12)", x.run(12), 40);
        Due.is("run: lines() at 12", x.lines(), 1);
        Due.is("run(13)", x.run(13), 12);
        Due.is("run: lines() at 13", x.lines(), 0);
        Due.is("run(10)", x.run(10), 13);
        Due.is("run: lines() at 10", x.lines(), 1);
        Due.is("run(60)", x.run(60), 10);
        x.find();
        int[] wrong = {9, 61, 0, -1, Due.LEAST, Due.MOST};
        for (int v : wrong) {
            Due.is("run(" + v + ")", x.run(v), Due.BAD);
        }
        Due.is("run refused: still found", x.count(0), 1);
        Due.is("run refused: run(60)", x.run(60), 60);
    }

    private static void promise5Dot() {
        ScoreReader x = new ScoreReader();
        x.ink(0, 0, 1, 1, true);
        x.ink(59, 31, 1, 1, true);
        Due.is("dot(0, 0)", x.dot(0, 0), 1);
        Due.is("dot(59, 31)", x.dot(59, 31), 1);
        Due.is("dot(58, 31)", x.dot(58, 31), 0);
        int[][] wrong = {{-1, 0}, {0, -1}, {60, 0}, {0, 32}, {Due.LEAST, 0}, {Due.MOST, 0},
            {0, Due.LEAST}, {0, Due.MOST}, {64, 0}, {-64, 0}};
        for (int[] at : wrong) {
            Due.is("dot(" + at[0] + ", " + at[1] + ")", x.dot(at[0], at[1]), Due.BAD);
        }
    }

    private static void promise6Lines() {
        ScoreReader x = new ScoreReader();
        x.row(0, Boards.BLACK >>> 20);
        Due.is("lines: 40 side by side", x.lines(), 1);
        x.row(0, Boards.BLACK >>> 21);
        Due.is("lines: 39 side by side", x.lines(), 0);
        x.row(0, Boards.BLACK & ~(1L << 30));
        Due.is("lines: 59 with a gap", x.lines(), 0);
        x.row(0, Boards.BLACK << 20 & Boards.BLACK);
        Due.is("lines: 40 at the right edge", x.lines(), 1);
        x.row(1, Boards.BLACK);
        Due.is("lines: two rows are one", x.lines(), 1);
        x.row(3, Boards.BLACK);
        Due.is("lines: a white row parts them", x.lines(), 2);
        x.row(31, Boards.BLACK);
        Due.is("lines: the last row", x.lines(), 3);
        x.ink(0, 0, 60, 32, true);
        Due.is("lines: all black", x.lines(), 1);
        for (int y = 1; y < 32; y += 2) {
            x.row(y, 0L);
        }
        Due.is("lines: every other row", x.lines(), 16);
    }

    private static void promise7Staff() {
        ScoreReader x = Boards.staff(3, 5);
        for (int i = 0; i < 5; i++) {
            Due.is("staff(" + i + ", 0)", x.staff(i, 0), 3 + i * 5);
            Due.is("staff(" + i + ", 1)", x.staff(i, 1), 3 + i * 5);
        }
        x.row(9, Boards.BLACK);
        Due.is("staff: first row of two", x.staff(1, 0), 8);
        Due.is("staff: last row of two", x.staff(1, 1), 9);
        Due.is("staff: next line", x.staff(2, 1), 13);
        int[][] wrong = {{-1, 0}, {5, 0}, {0, -1}, {0, 2}, {Due.LEAST, 0}, {Due.MOST, 0},
            {0, Due.LEAST}, {0, Due.MOST}};
        for (int[] a : wrong) {
            Due.is("staff(" + a[0] + ", " + a[1] + ")", x.staff(a[0], a[1]), Due.BAD);
        }
        x.row(3, 0L);
        Due.is("staff: four lines", x.staff(0, 0), Due.NOT);
        Due.is("staff: BAD ahead of NOT", x.staff(5, 0), Due.BAD);
    }

    private static void promise7StaffIsTheFirstEvenFive() {
        due(new int[] {0, 4, 8, 12, 16}, 0, 4);
        due(new int[] {0, 4, 9, 13, 18}, 0, 4);
        due(new int[] {0, 5, 9, 14, 18}, 0, 5);
        due(new int[] {0, 4, 10, 14, 18}, Due.NOT, Due.NONE);
        due(new int[] {0, 3, 7, 12, 16}, Due.NOT, Due.NONE);
        due(new int[] {0, 2, 4, 6, 8}, 0, 2);
        due(new int[] {0, 2, 6, 10, 14, 18}, 2, 4);
        due(new int[] {0, 7, 9, 16, 20, 24, 28, 31}, 16, 4);
        due(new int[] {0, 7, 9, 16, 20, 24, 28, 30}, Due.NOT, Due.NONE);
        due(new int[] {0, 7, 14, 18, 22, 26, 30}, 14, 4);
        due(new int[] {0, 2, 4, 6, 8, 10, 13, 16}, 0, 2);
        due(new int[] {3, 10, 17, 24, 31}, 3, 7);
        due(new int[] {3, 10, 17, 24}, Due.NOT, Due.NONE);
    }

    private static void due(int[] rows, int first, int gap) {
        ScoreReader x = new ScoreReader();
        for (int y : rows) {
            x.row(y, Boards.BLACK);
        }
        String board = "lines at " + java.util.Arrays.toString(rows);
        Due.is(board + ": staff(0, 0)", x.staff(0, 0), first);
        Due.is(board + ": count(2)", x.count(2), gap);
        Due.is(board + ": count(1)", x.count(1), gap == Due.NONE ? 0 : 1);
    }

    private static void changesEndWhatWasFound() {
        ScoreReader x = Boards.said(2);
        x.row(20, 1L);
        Due.is("row ends what was found", x.best(), Due.NOT);
        Due.is("row: what was said stays", x.count(3), 1);
        x.row(20, 0L);
        Due.is("row back: not found by itself", x.count(0), Due.NONE);
        x.find();
        Due.is("row back: what was said holds", x.sign(0, 6), 2);
        x.ink(30, 30, 1, 1, true);
        Due.is("ink ends what was found", x.best(), Due.NOT);
        x.find();
        x.run(30);
        Due.is("run ends what was found", x.best(), Due.NOT);
        Due.is("dot, lines, staff end nothing", x.find(), 2);
        x.dot(0, 0);
        x.lines();
        x.staff(0, 0);
        Due.is("still found", x.count(0), 2);
    }
}
