import java.util.Arrays;

/** Promises 1 to 7, sentence by sentence where the document names an edge. */
public final class BoardEdgesTest {
    private static final int[] NO_INTS = {-1, Due.LEAST, Due.LEAST + 1, Due.MOST, Due.MOST - 1};

    public static void main(String[] args) {
        promise1EachDotIsWhite();
        promise1NothingIsKnownYet();
        promise1NumbersAtFirst();
        promise1ObjectsShareNothing();
        promise2RowsOfTheBoard();
        promise2BitsOfARow();
        promise2OtherRowsStay();
        promise3WidthAndHeight();
        promise3BeyondTheBoard();
        promise3HowManyChanged();
        promise3DotsBesideTheBox();
        promise4Bounds();
        promise4WhichItWas();
        promise5Bounds();
        promise6RunOrMore();
        promise6SideBySide();
        promise6AsManyAsThereAre();
        promise6RulesOfOneLineNeedNotTouch();
        promise6NoneAndMost();
        Due.end("BoardEdgesTest");
    }

    // "A white BOARD."
    private static void promise1EachDotIsWhite() {
        for (int part = 0; part < 4; part++) {
            ScoreReader x = new ScoreReader();
            for (int i = 0; i < 480; i++) {
                int y = part * 8 + i / 60;
                Due.is("new: dot(" + i % 60 + ", " + y + ")", x.dot(i % 60, y), 0);
            }
        }
    }

    // Nothing there yet: no LINE, no STAFF, no SIGN, no READING, no MEASURE.
    private static void promise1NothingIsKnownYet() {
        ScoreReader x = new ScoreReader();
        int[] counts = {Due.NONE, 0, Due.NONE, 0, 0};
        for (int what = 0; what < 5; what++) {
            Due.is("new: count(" + what + ")", x.count(what), counts[what]);
        }
        Due.is("new: lines()", x.lines(), 0);
        for (int i = 0; i < 5; i++) {
            Due.is("new: staff(" + i + ", 0)", x.staff(i, 0), Due.NOT);
            Due.is("new: staff(" + i + ", 1)", x.staff(i, 1), Due.NOT);
        }
        for (int what = 0; what < 7; what++) {
            Due.is("new: sign(0, " + what + ")", x.sign(0, what), Due.LEAST);
            Due.is("new: correct(0, " + what + ")", x.correct(0, what), Due.NOT);
        }
        Due.is("new: correct(0, -1)", x.correct(0, -1), Due.NOT);
        Due.is("new: best()", x.best(), Due.NOT);
        Due.is("new: read(0)", x.read(0), Due.NOT);
        Due.is("new: doubt(0)", x.doubt(0), Due.NOT);
        Due.is("new: question()", x.question(), Due.NOT);
        Due.is("new: measures()", x.measures(), Due.NOT);
        Due.is("new: note(0, 0, 0)", x.note(0, 0, 0), Due.LEAST);
        Due.is("new: played(0)", x.played(0), Due.NOT);
        Due.is("new: count(3) behind all that", x.count(3), 0);
        Due.is("new: find()", x.find(), 0);
    }

    // RUN 40 at first, THE DIRT 60, THE TIME 16, and no SIGN OF WAY.
    private static void promise1NumbersAtFirst() {
        ScoreReader x = new ScoreReader();
        Due.is("new: run(10)", x.run(10), 40);
        Due.is("new: set(0, 0)", x.set(0, 0), 60);
        Due.is("new: set(1, 2)", x.set(1, 2), 16);
        for (int m = 0; m < 40; m++) {
            Due.is("new: sway(" + m + ", 4)", x.sway(m, 4), 0);
        }
    }

    private static void promise1ObjectsShareNothing() {
        ScoreReader x = Boards.staff(8, 4);
        x.ink(3, 2, 1, 1, true);
        x.find();
        x.correct(0, 2);
        x.run(10);
        x.set(0, 1);
        x.set(1, 4);
        x.sway(0, 2);
        for (int k = 0; k < 6; k++) {
            x.kind(k, 0, 0, 32, 99);
        }
        promise1NothingIsKnownYet();
        promise1NumbersAtFirst();
        ScoreReader z = new ScoreReader();
        z.ink(3, 2, 1, 1, true);
        z.find();
        Due.is("another object: its KINDS are as at first", z.best(), 50);
        Due.is("another object: sign(0, 6)", z.sign(0, 6), Due.NONE);
        Due.is("the first: best()", x.best(), Due.NOT);
    }

    // "THE BOARD has 32 rows (0 above)"; BAD: no such row.
    private static void promise2RowsOfTheBoard() {
        ScoreReader x = new ScoreReader();
        Due.is("row(0, 1)", x.row(0, 1L), 1);
        Due.is("row(31, 3)", x.row(31, 3L), 2);
        Due.is("row(32, 1)", x.row(32, 1L), Due.BAD);
        for (int y : NO_INTS) {
            Due.is("row(" + y + ", 1)", x.row(y, 1L), Due.BAD);
        }
        Due.is("rows: count(4)", x.count(4), 3);
    }

    // "of 60 dots (x from 0)"; "bit x for x"; a number out of its bounds is BAD.
    private static void promise2BitsOfARow() {
        ScoreReader x = new ScoreReader();
        for (int i = 0; i < 60; i++) {
            Due.is("row(7, bit " + i + ")", x.row(7, 1L << i), 1);
            Due.is("bit " + i + ": its dot", x.dot(i, 7), 1);
            Due.is("bit " + i + ": left of it", x.dot(i - 1, 7), i == 0 ? Due.BAD : 0);
            Due.is("bit " + i + ": right of it", x.dot(i + 1, 7), i == 59 ? Due.BAD : 0);
        }
        Due.is("row(7, no bit)", x.row(7, 0L), 0);
        Due.is("row(7, all bits)", x.row(7, (1L << 60) - 1), 60);
        Due.is("row(7, all but the first)", x.row(7, (1L << 60) - 2), 59);
        for (int bit = 60; bit < 64; bit++) {
            Due.is("row(7, bit " + bit + ")", x.row(7, 1L << bit), Due.BAD);
            Due.is("row(7, bit " + bit + " and 0)", x.row(7, 1L << bit | 1L), Due.BAD);
        }
        long[] wrong = {-1L, Long.MIN_VALUE, Long.MIN_VALUE + 1, Long.MAX_VALUE, -(1L << 60)};
        for (long dots : wrong) {
            Due.is("row(7, " + dots + ")", x.row(7, dots), Due.BAD);
        }
        Due.is("bits: count(4)", x.count(4), 59);
    }

    // "A row becomes these dots": it alone, and all of it.
    private static void promise2OtherRowsStay() {
        ScoreReader x = new ScoreReader();
        x.ink(0, 0, 60, 32, true);
        Due.is("row(0, 0) of a black board", x.row(0, 0L), 0);
        Due.is("row(0, 0): count(4)", x.count(4), 31 * 60);
        Due.is("row(31, 1 << 59)", x.row(31, 1L << 59), 1);
        Due.is("row(31, 1 << 59): count(4)", x.count(4), 30 * 60 + 1);
        Due.is("row 1 stays", x.dot(59, 1), 1);
        Due.is("row 30 stays", x.dot(0, 30), 1);
    }

    // "BAD: w, h 1 .. 60, 1 .. 32"
    private static void promise3WidthAndHeight() {
        ScoreReader x = new ScoreReader();
        Due.is("ink, w 1, h 1", x.ink(0, 0, 1, 1, true), 1);
        Due.is("ink, w 60, h 1", x.ink(0, 0, 60, 1, true), 59);
        Due.is("ink, w 1, h 32", x.ink(0, 0, 1, 32, true), 31);
        Due.is("ink, w 60, h 32", x.ink(0, 0, 60, 32, true), 1920 - 91);
        int[] sizes = {0, -1, Due.LEAST, Due.MOST, Due.MOST - 1, -60, 64};
        for (int size : sizes) {
            Due.is("ink, w " + size, x.ink(0, 0, size, 1, false), Due.BAD);
            Due.is("ink, h " + size, x.ink(0, 0, 1, size, false), Due.BAD);
        }
        Due.is("ink, w 61", x.ink(0, 0, 61, 1, false), Due.BAD);
        Due.is("ink, h 33", x.ink(0, 0, 1, 33, false), Due.BAD);
        Due.is("ink refused: count(4)", x.count(4), 1920);
    }

    // "BAD: .. beyond THE BOARD", also where x + w or y + h would wrap around.
    private static void promise3BeyondTheBoard() {
        ScoreReader x = new ScoreReader();
        for (int w = 1; w <= 60; w++) {
            Due.is("ink, the last x of w " + w, x.ink(60 - w, 3, w, 1, true), 1);
            Due.is("ink, one more, w " + w, x.ink(61 - w, 4, w, 1, true), Due.BAD);
        }
        for (int h = 1; h <= 32; h++) {
            Due.is("ink, the last y of h " + h, x.ink(3, 32 - h, 1, h, true), h == 29 ? 0 : 1);
            Due.is("ink, one more, h " + h, x.ink(4, 33 - h, 1, h, true), Due.BAD);
        }
        for (int at : NO_INTS) {
            Due.is("ink, x " + at + ", w 1", x.ink(at, 0, 1, 1, true), Due.BAD);
            Due.is("ink, x " + at + ", w 60", x.ink(at, 0, 60, 1, true), Due.BAD);
            Due.is("ink, y " + at + ", h 1", x.ink(0, at, 1, 1, true), Due.BAD);
            Due.is("ink, y " + at + ", h 32", x.ink(0, at, 1, 32, true), Due.BAD);
            Due.is("ink, all " + at, x.ink(at, at, at, at, true), Due.BAD);
        }
        Due.is("ink, wraps by w", x.ink(Due.MOST - 59, 0, 60, 1, true), Due.BAD);
        Due.is("ink, wraps by h", x.ink(0, Due.MOST - 31, 1, 32, true), Due.BAD);
        Due.is("ink beyond: count(4)", x.count(4), 60 + 31);
    }

    // "Dots of a box become black, or white: how many changed."
    private static void promise3HowManyChanged() {
        ScoreReader x = new ScoreReader();
        Due.is("white on white", x.ink(0, 0, 60, 32, false), 0);
        Due.is("black on white", x.ink(0, 0, 60, 32, true), 1920);
        Due.is("black on black", x.ink(0, 0, 60, 32, true), 0);
        Due.is("white on black", x.ink(1, 1, 58, 30, false), 58 * 30);
        Due.is("white over a part", x.ink(0, 0, 2, 2, false), 3);
        Due.is("black over a part", x.ink(0, 0, 2, 2, true), 4);
    }

    // The box has w columns from x on and h rows from y on, and none beside them.
    private static void promise3DotsBesideTheBox() {
        int[][] boxes = {{0, 0, 1, 1}, {59, 0, 1, 1}, {0, 31, 1, 1}, {59, 31, 1, 1}, {0, 0, 60, 1},
            {0, 0, 1, 32}, {20, 10, 7, 5}, {1, 1, 58, 30}, {0, 31, 60, 1}, {59, 0, 1, 32}};
        for (int[] b : boxes) {
            for (int black = 0; black < 2; black++) {
                ScoreReader x = new ScoreReader();
                x.ink(0, 0, 60, 32, black == 0);
                int size = b[2] * b[3];
                String box = "ink " + Arrays.toString(b) + (black == 1 ? " black: " : " white: ");
                Due.is(box, x.ink(b[0], b[1], b[2], b[3], black == 1), size);
                Due.is(box + "count(4)", x.count(4), black == 1 ? size : 1920 - size);
                corners(box, x, b, black);
            }
        }
    }

    private static void corners(String box, ScoreReader x, int[] b, int inside) {
        int[] columns = {b[0] - 1, b[0], b[0] + b[2] - 1, b[0] + b[2]};
        int[] rows = {b[1] - 1, b[1], b[1] + b[3] - 1, b[1] + b[3]};
        for (int i = 0; i < 4; i++) {
            for (int j = 0; j < 4; j++) {
                boolean off = columns[i] < 0 || columns[i] > 59 || rows[j] < 0 || rows[j] > 31;
                boolean within = i % 3 != 0 && j % 3 != 0;
                Due.is(box + "dot(" + columns[i] + ", " + rows[j] + ")", x.dot(columns[i], rows[j]),
                        off ? Due.BAD : within ? inside : 1 - inside);
            }
        }
    }

    // "RUN (10 .. 60; 40 at first)"
    private static void promise4Bounds() {
        ScoreReader x = new ScoreReader();
        Due.is("run(10)", x.run(10), 40);
        Due.is("run(9)", x.run(9), Due.BAD);
        Due.is("run(60)", x.run(60), 10);
        Due.is("run(61)", x.run(61), Due.BAD);
        Due.is("run(0)", x.run(0), Due.BAD);
        for (int v : NO_INTS) {
            Due.is("run(" + v + ")", x.run(v), Due.BAD);
        }
        Due.is("run(60) again", x.run(60), 60);
    }

    // "RUN: which it was."
    private static void promise4WhichItWas() {
        ScoreReader x = new ScoreReader();
        int was = 40;
        for (int v = 60; v >= 10; v--) {
            Due.is("run(" + v + ")", x.run(v), was);
            was = v;
        }
    }

    // "Whether a dot is black (1, 0). BAD."
    private static void promise5Bounds() {
        ScoreReader x = new ScoreReader();
        x.ink(0, 0, 60, 32, true);
        int[][] corners = {{0, 0}, {59, 0}, {0, 31}, {59, 31}};
        for (int[] at : corners) {
            Due.is("dot " + Arrays.toString(at), x.dot(at[0], at[1]), 1);
            x.ink(at[0], at[1], 1, 1, false);
            Due.is("dot, white, " + Arrays.toString(at), x.dot(at[0], at[1]), 0);
        }
        Due.is("dot(60, 0)", x.dot(60, 0), Due.BAD);
        Due.is("dot(0, 32)", x.dot(0, 32), Due.BAD);
        Due.is("dot(60, 32)", x.dot(60, 32), Due.BAD);
        for (int at : NO_INTS) {
            Due.is("dot(" + at + ", 0)", x.dot(at, 0), Due.BAD);
            Due.is("dot(0, " + at + ")", x.dot(0, at), Due.BAD);
            Due.is("dot(" + at + ", " + at + ")", x.dot(at, at), Due.BAD);
        }
        for (int i = 61; i < 130; i++) {
            Due.is("dot(" + i + ", 1)", x.dot(i, 1), Due.BAD);
            Due.is("dot(" + -i + ", 1)", x.dot(-i, 1), Due.BAD);
        }
    }

    // "A RULE is a row with RUN .. or more black dots side by side"
    private static void promise6RunOrMore() {
        for (int run = 10; run <= 60; run++) {
            ScoreReader x = new ScoreReader();
            x.run(run);
            x.row(5, Boards.dots(run - 1));
            Due.is("one dot less than RUN " + run, x.lines(), 0);
            x.row(5, Boards.dots(run));
            Due.is("RUN " + run + " dots from the left edge", x.lines(), 1);
            x.row(5, Boards.dots(run) << 60 - run);
            Due.is("RUN " + run + " dots to the right edge", x.lines(), 1);
            x.row(5, Boards.dots(run - 1) << 61 - run);
            Due.is("one dot less than RUN " + run + " to the right edge", x.lines(), 0);
            x.row(5, Boards.BLACK);
            Due.is("60 dots at RUN " + run, x.lines(), 1);
        }
        ScoreReader x = new ScoreReader();
        x.row(0, Boards.dots(39));
        Due.is("39 dots at first", x.lines(), 0);
        x.row(0, Boards.dots(40));
        Due.is("40 dots at first", x.lines(), 1);
    }

    // "side by side": a white dot between ends them, and neither do they go on in the next row.
    private static void promise6SideBySide() {
        ScoreReader x = new ScoreReader();
        x.row(5, Boards.BLACK & ~(1L << 39));
        Due.is("39, white, 20", x.lines(), 0);
        x.row(5, Boards.BLACK & ~(1L << 40));
        Due.is("40, white, 19", x.lines(), 1);
        x.row(5, Boards.BLACK & ~(1L << 20));
        Due.is("20, white, 39", x.lines(), 0);
        x.row(5, Boards.BLACK & ~(1L << 19));
        Due.is("19, white, 40", x.lines(), 1);
        x.run(10);
        long nines = 0;
        for (int i = 0; i < 60; i++) {
            nines |= i % 10 == 9 ? 0 : 1L << i;
        }
        x.row(5, nines);
        Due.is("nine by nine", x.lines(), 0);
        x.row(5, nines | 1L << 49);
        Due.is("nine by nine, two of them bridged", x.lines(), 1);
        x.row(5, Boards.dots(5));
        x.row(6, Boards.dots(5) << 55);
        x.row(4, Boards.dots(9) << 51);
        Due.is("not from row to row", x.lines(), 0);
        x.row(4, Boards.dots(10) << 25);
        Due.is("ten in the middle", x.lines(), 1);
    }

    // "a LINE are RULES right below one another (as many as there are)"
    private static void promise6AsManyAsThereAre() {
        for (int height = 1; height <= 32; height++) {
            ScoreReader x = new ScoreReader();
            x.ink(0, 32 - height, 60, height, true);
            Due.is("a LINE of " + height + " rows down to the last", x.lines(), 1);
            x.ink(0, 0, 60, 32, false);
            x.ink(0, 0, 60, height, true);
            Due.is("a LINE of " + height + " rows from the first", x.lines(), 1);
            Due.is("no STAFF of one LINE", x.count(1), 0);
        }
        ScoreReader x = new ScoreReader();
        x.ink(0, 0, 60, 32, true);
        x.row(16, Boards.dots(39));
        Due.is("a row of 39 between", x.lines(), 2);
        x.row(16, Boards.dots(40));
        Due.is("a row of 40 between", x.lines(), 1);
    }

    private static void promise6RulesOfOneLineNeedNotTouch() {
        ScoreReader x = new ScoreReader();
        x.run(10);
        x.row(3, Boards.dots(10));
        x.row(4, Boards.dots(10) << 50);
        Due.is("two RULES that do not touch are one LINE", x.lines(), 1);
        x.row(5, Boards.dots(9));
        x.row(6, Boards.dots(10));
        Due.is("a row of nine parts them", x.lines(), 2);
    }

    private static void promise6NoneAndMost() {
        ScoreReader x = new ScoreReader();
        Due.is("no LINE", x.lines(), 0);
        for (int y = 0; y < 32; y += 2) {
            x.row(y, Boards.BLACK);
            Due.is("lines() down to row " + y, x.lines(), y / 2 + 1);
        }
        ScoreReader z = new ScoreReader();
        for (int y = 31; y > 0; y -= 2) {
            z.row(y, Boards.BLACK);
        }
        Due.is("lines() of the odd rows", z.lines(), 16);
    }
}
