import java.util.Arrays;

/** Promise 7, and what ends what was found, sentence by sentence where the document names an edge. */
public final class StaffEdgesTest {
    private static final int[] NO_INTS = {-1, Due.LEAST, Due.LEAST + 1, Due.MOST, Due.MOST - 1};

    public static void main(String[] args) {
        promise7Bounds();
        promise7BadAheadOfNot();
        promise7FiveLines();
        promise7AlikeOrByOne();
        promise7GreatestAndLeast();
        promise7FromTheSecondAndSoOn();
        promise7NoneIsLeftOut();
        promise7FromFirstRowToFirstRow();
        promise7LastRows();
        promise7LeastAndGreatestGap();
        promise7FollowsTheBoardAndRun();
        promise7NeedsNoFind();
        promise2Promise3Promise4ChangesEnd();
        promise2Promise3Promise4RefusedEndNothing();
        promise6Promise7QuestionsEndNothing();
        Due.end("StaffEdgesTest");
    }

    // "LINE i (0 .. 4)", "first row (way 0), last row (1)"
    private static void promise7Bounds() {
        ScoreReader x = Boards.staff(0, 7);
        Due.is("staff(0, 0)", x.staff(0, 0), 0);
        Due.is("staff(4, 1)", x.staff(4, 1), 28);
        Due.is("staff(5, 0)", x.staff(5, 0), Due.BAD);
        Due.is("staff(5, 1)", x.staff(5, 1), Due.BAD);
        Due.is("staff(0, 2)", x.staff(0, 2), Due.BAD);
        Due.is("staff(4, 2)", x.staff(4, 2), Due.BAD);
        for (int v : NO_INTS) {
            Due.is("staff(" + v + ", 0)", x.staff(v, 0), Due.BAD);
            Due.is("staff(0, " + v + ")", x.staff(0, v), Due.BAD);
            Due.is("staff(" + v + ", " + v + ")", x.staff(v, v), Due.BAD);
        }
    }

    // "the first that fits: BAD .., NOT (no STAFF ..)"
    private static void promise7BadAheadOfNot() {
        ScoreReader x = new ScoreReader();
        Due.is("no STAFF: staff(0, 0)", x.staff(0, 0), Due.NOT);
        Due.is("no STAFF: staff(4, 1)", x.staff(4, 1), Due.NOT);
        Due.is("no STAFF: staff(5, 0)", x.staff(5, 0), Due.BAD);
        Due.is("no STAFF: staff(0, 2)", x.staff(0, 2), Due.BAD);
        for (int v : NO_INTS) {
            Due.is("no STAFF: staff(" + v + ", 0)", x.staff(v, 0), Due.BAD);
            Due.is("no STAFF: staff(0, " + v + ")", x.staff(0, v), Due.BAD);
        }
    }

    // "THE STAFF are the first five LINES": four are none, all sixteen have one.
    private static void promise7FiveLines() {
        none(new int[] {});
        none(new int[] {4});
        none(new int[] {4, 8, 12, 16});
        five(4, new int[] {4, 8, 12, 16, 20}, 4);
        five(0, new int[] {0, 2, 4, 6, 8, 10, 12, 14, 16, 18, 20, 22, 24, 26, 28, 30}, 2);
        five(1, new int[] {1, 3, 5, 7, 9, 11, 13, 15, 17, 19, 21, 23, 25, 27, 29, 31}, 2);
        ScoreReader x = new ScoreReader();
        x.ink(0, 0, 60, 32, true);
        Due.is("all black: count(1)", x.count(1), 0);
        Due.is("all black: staff(0, 0)", x.staff(0, 0), Due.NOT);
    }

    private static void none(int... rows) {
        ScoreReader x = Boards.ruled(rows);
        String board = "lines at " + Arrays.toString(rows) + ": ";
        Due.is(board + "staff(0, 0)", x.staff(0, 0), Due.NOT);
        Due.is(board + "staff(4, 1)", x.staff(4, 1), Due.NOT);
        Due.is(board + "count(1)", x.count(1), 0);
        Due.is(board + "count(2)", x.count(2), Due.NONE);
    }

    /** Lines of one row each; the STAFF begins at the row 'first' among them. */
    private static void five(int first, int[] rows, int gap) {
        ScoreReader x = Boards.ruled(rows);
        String board = "lines at " + Arrays.toString(rows) + ": ";
        int start = Arrays.binarySearch(rows, first);
        for (int i = 0; i < 5; i++) {
            Due.is(board + "staff(" + i + ", 0)", x.staff(i, 0), rows[start + i]);
            Due.is(board + "staff(" + i + ", 1)", x.staff(i, 1), rows[start + i]);
        }
        Due.is(board + "count(1)", x.count(1), 1);
        Due.is(board + "count(2)", x.count(2), gap);
    }

    // "are all alike, or differ by 1 at most"; "GAP is that between the first two of them"
    private static void promise7AlikeOrByOne() {
        five(0, new int[] {0, 5, 10, 15, 20}, 5);
        five(0, new int[] {0, 6, 11, 16, 21}, 6);
        five(0, new int[] {0, 5, 11, 16, 21}, 5);
        five(0, new int[] {0, 5, 10, 16, 21}, 5);
        five(0, new int[] {0, 5, 10, 15, 21}, 5);
        five(0, new int[] {0, 4, 9, 14, 19}, 4);
        five(0, new int[] {0, 5, 9, 14, 19}, 5);
        five(0, new int[] {0, 5, 10, 14, 19}, 5);
        five(0, new int[] {0, 5, 10, 15, 19}, 5);
        none(0, 7, 12, 17, 22);
        none(0, 5, 12, 17, 22);
        none(0, 5, 10, 17, 22);
        none(0, 5, 10, 15, 22);
        none(0, 3, 8, 13, 18);
        none(0, 5, 8, 13, 18);
        none(0, 5, 10, 13, 18);
        none(0, 5, 10, 15, 18);
    }

    // "(the greatest and the least)": not only those side by side.
    private static void promise7GreatestAndLeast() {
        none(0, 4, 9, 15, 20);
        none(0, 6, 11, 15, 20);
        none(0, 5, 9, 14, 20);
        none(0, 5, 11, 16, 20);
        none(0, 6, 10, 16, 20);
        none(0, 3, 7, 12, 18);
        five(0, new int[] {0, 4, 9, 13, 18}, 4);
        five(0, new int[] {0, 5, 9, 14, 18}, 5);
    }

    // "(from the first LINE on, else from the second, and so on)"
    private static void promise7FromTheSecondAndSoOn() {
        five(0, new int[] {0, 4, 8, 12, 16, 20, 24, 28}, 4);
        five(2, new int[] {0, 2, 6, 10, 14, 18}, 4);
        five(4, new int[] {0, 2, 4, 8, 12, 16, 20}, 4);
        five(5, new int[] {0, 3, 5, 9, 13, 17, 21, 25}, 4);
        five(6, new int[] {1, 3, 6, 11, 15, 19, 23, 27, 31}, 5);
        five(13, new int[] {0, 2, 6, 8, 13, 16, 19, 22, 25}, 3);
        five(0, new int[] {0, 2, 4, 6, 8, 12, 16, 20, 24, 28}, 2);
        five(22, new int[] {0, 4, 6, 10, 12, 16, 18, 22, 24, 26, 28, 30}, 2);
        none(0, 2, 6, 8, 12, 14, 18, 20, 24, 26, 30);
    }

    // "five LINES that follow one another": one between them makes them uneven.
    private static void promise7NoneIsLeftOut() {
        none(0, 6, 12, 14, 18, 24);
        none(0, 6, 12, 18, 20, 24);
        none(0, 6, 8, 12, 18, 24, 30);
        five(2, new int[] {0, 2, 8, 14, 20, 26}, 6);
    }

    // "GAPS (from the first row of one to that of the next)"
    private static void promise7FromFirstRowToFirstRow() {
        ScoreReader x = Boards.staff(4, 5);
        for (int i = 0; i < 5; i++) {
            x.ink(0, 4 + i * 5, 60, i + 1, true);
        }
        Due.is("thicker and thicker: lines()", x.lines(), 4 + 1);
        for (int i = 0; i < 5; i++) {
            Due.is("thicker and thicker: staff(" + i + ", 0)", x.staff(i, 0), 4 + i * 5);
        }
        Due.is("thicker and thicker: count(2)", x.count(2), 5);
        ScoreReader z = Boards.ruled(4, 9, 14, 19, 24, 3, 2);
        Due.is("thicker upwards: no STAFF", z.staff(0, 0), Due.NOT);
        z.row(2, Boards.WHITE);
        Due.is("thicker upwards by one: staff(0, 0)", z.staff(0, 0), 3);
        Due.is("thicker upwards by one: count(2)", z.count(2), 6);
    }

    // "told by its first and last row"
    private static void promise7LastRows() {
        ScoreReader x = Boards.staff(0, 6);
        for (int i = 0; i < 5; i++) {
            x.ink(0, i * 6, 60, 5 - i, true);
        }
        int[] lasts = {4, 9, 14, 19, 24};
        for (int i = 0; i < 5; i++) {
            Due.is("thinner and thinner: staff(" + i + ", 0)", x.staff(i, 0), i * 6);
            Due.is("thinner and thinner: staff(" + i + ", 1)", x.staff(i, 1), lasts[i]);
        }
        x.ink(0, 24, 60, 8, true);
        Due.is("down to the last row: staff(4, 0)", x.staff(4, 0), 24);
        Due.is("down to the last row: staff(4, 1)", x.staff(4, 1), 31);
    }

    private static void promise7LeastAndGreatestGap() {
        five(0, new int[] {0, 2, 4, 6, 8}, 2);
        five(23, new int[] {23, 25, 27, 29, 31}, 2);
        five(0, new int[] {0, 8, 16, 24, 31}, 8);
        five(0, new int[] {0, 7, 15, 23, 31}, 7);
        five(0, new int[] {0, 7, 14, 21, 28}, 7);
        five(3, new int[] {3, 10, 17, 24, 31}, 7);
        none(0, 7, 14, 21, 30);
        none(0, 8, 16, 24, 30);
    }

    private static void promise7FollowsTheBoardAndRun() {
        ScoreReader x = Boards.staff(4, 4);
        x.row(12, Boards.dots(50));
        Due.is("at RUN 40: staff(2, 0)", x.staff(2, 0), 12);
        x.run(50);
        Due.is("at RUN 50: staff(2, 0)", x.staff(2, 0), 12);
        x.run(51);
        Due.is("at RUN 51: staff(2, 0)", x.staff(2, 0), Due.NOT);
        Due.is("at RUN 51: lines()", x.lines(), 4);
        x.row(12, Boards.dots(51));
        Due.is("with one dot more: staff(2, 0)", x.staff(2, 0), 12);
        x.ink(25, 4, 1, 1, false);
        Due.is("with a white dot in the first: staff(0, 0)", x.staff(0, 0), Due.NOT);
    }

    // NOT is for no STAFF, not for SIGNS that are not found.
    private static void promise7NeedsNoFind() {
        ScoreReader x = Boards.staff(4, 4);
        Due.is("not found: staff(3, 1)", x.staff(3, 1), 16);
        Due.is("not found: lines()", x.lines(), 5);
        for (int i = 0; i < 42; i++) {
            x.ink(i, 28 + i % 2 * 2, 1, 1, true);
        }
        Due.is("42 signs: find()", x.find(), Due.FULL);
        Due.is("FULL: staff(3, 1)", x.staff(3, 1), 16);
    }

    // "---- the board (each change ends what was found; what a CORRECTOR said stays)"
    private static void promise2Promise3Promise4ChangesEnd() {
        for (int call = 0; call < 6; call++) {
            ScoreReader x = Boards.said(2, 5);
            Due.is("before a change: best()", x.best(), 0);
            switch (call) {
                case 0: x.row(31, 0L); break;
                case 1: x.row(31, 1L); break;
                case 2: x.ink(59, 31, 1, 1, true); break;
                case 3: x.ink(0, 0, 1, 1, false); break;
                case 4: x.run(10); break;
                default: x.run(60); break;
            }
            String change = "change " + call + ": ";
            Due.is(change + "count(0)", x.count(0), Due.NONE);
            Due.is(change + "best()", x.best(), Due.NOT);
            Due.is(change + "sign(0, 0)", x.sign(0, 0), Due.LEAST);
            Due.is(change + "sign(0, 6)", x.sign(0, 6), Due.LEAST);
            Due.is(change + "read(0)", x.read(0), Due.NOT);
            Due.is(change + "measures()", x.measures(), Due.NOT);
            Due.is(change + "played(0)", x.played(0), Due.NOT);
            Due.is(change + "correct(0, 1)", x.correct(0, 1), Due.NOT);
            Due.is(change + "count(3)", x.count(3), 2);
            x.ink(0, 0, 60, 32, false);
            x.ink(0, 0, 1, 1, true);
            x.ink(5, 0, 1, 1, true);
            Due.is(change + "find()", x.find(), 2);
            Due.is(change + "sign(0, 6)", x.sign(0, 6), 2);
            Due.is(change + "sign(1, 6)", x.sign(1, 6), 5);
            Due.is(change + "best() anew", x.best(), 0);
        }
    }

    // "Refused, and nothing changes"
    private static void promise2Promise3Promise4RefusedEndNothing() {
        ScoreReader x = Boards.said(2);
        x.row(32, 0L);
        x.row(0, -1L);
        x.ink(0, 0, 61, 1, true);
        x.ink(0, 0, 1, 33, true);
        x.run(9);
        x.run(61);
        Due.is("refused: count(0)", x.count(0), 1);
        Due.is("refused: best()", x.best(), 0);
        Due.is("refused: count(4)", x.count(4), 1);
    }

    private static void promise6Promise7QuestionsEndNothing() {
        ScoreReader x = Boards.said(2);
        x.lines();
        x.dot(0, 0);
        x.staff(0, 0);
        x.count(1);
        x.count(2);
        x.count(4);
        Due.is("asked: count(0)", x.count(0), 1);
        Due.is("asked: best()", x.best(), 0);
        Due.is("asked: read(0)", x.read(0), 2);
    }
}
