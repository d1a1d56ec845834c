import java.util.Arrays;

/** Boards that several tests begin with. */
final class Boards {
    static final long WHITE = 0L;
    static final long BLACK = (1L << 60) - 1;

    private Boards() {
    }

    /** Five lines of one row each, the first at a row, each so many rows below the one ahead. */
    static ScoreReader staff(int first, int gap) {
        ScoreReader x = new ScoreReader();
        for (int i = 0; i < 5; i++) {
            x.row(first + i * gap, BLACK);
        }
        return x;
    }

    /** Rows that are black from edge to edge. */
    static ScoreReader ruled(int... rows) {
        ScoreReader x = new ScoreReader();
        for (int y : rows) {
            x.row(y, BLACK);
        }
        return x;
    }

    /** Rows of dots as they would be printed, '#' black, the first one at row 'top', from x = 0. */
    static void print(ScoreReader x, int top, String... rows) {
        for (int i = 0; i < rows.length; i++) {
            long dots = 0;
            for (int at = 0; at < rows[i].length(); at++) {
                dots |= rows[i].charAt(at) == '#' ? 1L << at : 0;
            }
            x.row(top + i, dots);
        }
    }

    /** So many dots side by side, from x = 0. */
    static long dots(int length) {
        return length == 0 ? WHITE : BLACK >>> 60 - length;
    }

    /** Signs of these areas, one row high, from left to right, found; each area at most 4. */
    static ScoreReader signs(int... areas) {
        ScoreReader x = new ScoreReader();
        for (int i = 0; i < areas.length; i++) {
            x.ink(i % 12 * 5, i / 12 * 3, areas[i], 1, true);
        }
        Due.is("find() of " + areas.length, x.find(), areas.length);
        return x;
    }

    /** So many signs of one dot each (41 at most), in the order of finding from left to right. */
    static ScoreReader dotted(int size) {
        ScoreReader x = new ScoreReader();
        for (int i = 0; i < size; i++) {
            x.ink(i, i % 2 * 2, 1, 1, true);
        }
        return x;
    }

    /** The same, found. */
    static ScoreReader found(int size) {
        ScoreReader x = dotted(size);
        Due.is("find() of " + size, x.find(), size);
        return x;
    }

    /** Signs of one dot each that a corrector has said to be these. */
    static ScoreReader said(int... kinds) {
        int[] areas = new int[kinds.length];
        Arrays.fill(areas, 1);
        ScoreReader x = signs(areas);
        say(x, kinds);
        return x;
    }

    /** A corrector says of each SIGN what it is; -1: nothing yet. */
    static void say(ScoreReader x, int... kinds) {
        for (int k = 0; k < kinds.length; k++) {
            Due.is("correct(" + k + ", " + kinds[k] + ")", x.correct(k, kinds[k]), Due.NONE);
        }
    }
}
