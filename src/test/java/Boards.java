/** Boards that several tests begin with. */
final class Boards {
    static final long WHITE = 0L;
    static final long BLACK = (1L << 60) - 1;

    private Boards() {
    }

    /** Five lines of one row each, the first at a row, each so many rows below the one ahead. */
    static ScoreReader staff(int first, int gap) {
        ScoreReader x = new ScoreReader();
        for (int i = 0; i < 5; i++) {
            x.row(first + i * gap, BLACK);
        }
        return x;
    }

    /** Signs of these areas, one row high, from left to right, found; each area at most 4. */
    static ScoreReader signs(int... areas) {
        ScoreReader x = new ScoreReader();
        for (int i = 0; i < areas.length; i++) {
            x.ink(i % 12 * 5, i / 12 * 3, areas[i], 1, true);
        }
        Due.is("find() of " + areas.length, x.find(), areas.length);
        return x;
    }

    /** Signs of one dot each that a corrector has said to be these. */
    static ScoreReader said(int... kinds) {
        int[] areas = new int[kinds.length];
        java.util.Arrays.fill(areas, 1);
        ScoreReader x = signs(areas);
        for (int k = 0; k < kinds.length; k++) {
            Due.is("correct(" + k + ", " + kinds[k] + ")", x.correct(k, kinds[k]), Due.NONE);
        }
        return x;
    }
}
