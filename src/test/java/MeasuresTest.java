/** Promises 17 to 21: measures, notes, what is played, counts. */
public final class MeasuresTest {
    private static final int QUARTER = 0, HALF = 1, WHOLE = 2, REST = 3, DOT = 4, BAR = 5, DIRT = 6;
    private static final int BEGIN = 1, END = 2, FIRST = 3, BACK = 4;

    public static void main(String[] args) {
        promise17Measures();
        promise18Notes();
        promise18Steps();
        promise18Refused();
        promise19Sway();
        promise20Played();
        promise20AtMost200();
        promise20Refused();
        promise21Count();
        Due.end("MeasuresTest");
    }

    private static void promise17Measures() {
        measures(0);
        measures(0, BAR);
        measures(0, BAR, BAR, DIRT, BAR);
        measures(1, WHOLE);
        measures(1, BAR, WHOLE, BAR);
        measures(1, WHOLE, BAR, BAR);
        measures(2, WHOLE, BAR, HALF, HALF);
        measures(2, WHOLE, BAR, BAR, DIRT, BAR, REST, REST, HALF, BAR);
        measures(3, BAR, WHOLE, BAR, WHOLE, BAR, WHOLE);
        ScoreReader x = new ScoreReader();
        Due.is("measures() not found", x.measures(), Due.NOT);
        x.row(1, 1L);
        x.find();
        x.correct(0, DOT);
        Due.is("measures(), no READING", x.measures(), Due.NOT);
    }

    private static void measures(int want, int... kinds) {
        ScoreReader x = Boards.said(kinds);
        Due.is("measures() of " + java.util.Arrays.toString(kinds), x.measures(), want);
        Due.is("played() as many", x.played(want), Due.NONE);
        if (want > 0) {
            Due.is("played() the last", x.played(want - 1), want - 1);
        }
    }

    private static void promise18Notes() {
        ScoreReader x = Boards.said(BAR, QUARTER, DIRT, DOT, REST, QUARTER, QUARTER, BAR, BAR, HALF,
                DOT, HALF, BAR, REST, WHOLE);
        x.set(1, 18);
        Due.is("notes: not 18", x.best(), Due.NOT);
        x = Boards.said(BAR, QUARTER, DIRT, DOT, REST, QUARTER, DOT, BAR, BAR, REST, HALF, DIRT, REST,
                BAR, HALF, HALF);
        x.set(1, 16);
        Due.is("notes: measures()", x.measures(), 3);
        note(x, 0, 0, 1, 6);
        note(x, 0, 1, 5, 6);
        noNote(x, 0, 2);
        note(x, 1, 0, 10, 8);
        noNote(x, 1, 1);
        note(x, 2, 0, 14, 8);
        note(x, 2, 1, 15, 8);
        noNote(x, 2, 2);
        noNote(x, 3, 0);
        ScoreReader y = Boards.said(REST, REST, REST, BAR, HALF, DOT);
        y.set(1, 12);
        noNote(y, 0, 0);
        note(y, 1, 0, 4, 12);
        ScoreReader z = Boards.said(WHOLE, BAR, QUARTER, QUARTER, HALF);
        note(z, 0, 0, 0, 16);
        note(z, 1, 0, 2, 4);
        note(z, 1, 2, 4, 8);
        z.correct(0, -1);
        z.correct(0, WHOLE);
        note(z, 0, 0, 0, 16);
    }

    private static void note(ScoreReader x, int measure, int i, int sign, int time) {
        String call = "note(" + measure + ", " + i + ", ";
        Due.is(call + "0)", x.note(measure, i, 0), sign);
        Due.is(call + "1)", x.note(measure, i, 1), x.sign(sign, 5));
        Due.is(call + "2)", x.note(measure, i, 2), time);
    }

    private static void noNote(ScoreReader x, int measure, int i) {
        for (int what = 0; what < 3; what++) {
            Due.is("note(" + measure + ", " + i + ", " + what + ")", x.note(measure, i, what), Due.LEAST);
        }
    }

    private static void promise18Steps() {
        ScoreReader x = Boards.staff(8, 4);
        x.ink(5, 22, 1, 1, true);
        x.ink(10, 18, 1, 1, true);
        x.ink(15, 26, 1, 1, true);
        x.ink(20, 29, 1, 1, true);
        Due.is("steps: find()", x.find(), 4);
        for (int k = 0; k < 4; k++) {
            x.correct(k, QUARTER);
        }
        int[] want = {1, 3, -1, -3};
        for (int i = 0; i < 4; i++) {
            Due.is("steps: note(0, " + i + ", 1)", x.note(0, i, 1), want[i]);
        }
    }

    private static void promise18Refused() {
        ScoreReader x = Boards.said(WHOLE, BAR, WHOLE);
        int[][] wrong = {{-1, 0, 0}, {2, 0, 0}, {0, -1, 0}, {0, 1, 0}, {0, 0, -1}, {0, 0, 3},
            {40, 0, 0}, {Due.LEAST, 0, 0}, {Due.MOST, 0, 0}, {0, Due.LEAST, 0}, {0, Due.MOST, 0},
            {0, 0, Due.LEAST}, {0, 0, Due.MOST}};
        for (int[] a : wrong) {
            Due.is("note " + java.util.Arrays.toString(a), x.note(a[0], a[1], a[2]), Due.LEAST);
        }
        x.correct(1, HALF);
        Due.is("note, no READING", x.note(0, 0, 0), Due.LEAST);
        x.row(31, 1L);
        Due.is("note, not found", x.note(0, 0, 0), Due.LEAST);
    }

    private static void promise19Sway() {
        ScoreReader x = new ScoreReader();
        for (int v = 0; v <= 4; v++) {
            Due.is("sway(39, " + v + ")", x.sway(39, v), Math.max(0, v - 1));
        }
        Due.is("sway(0, 4)", x.sway(0, 4), 0);
        int[][] wrong = {{-1, 0}, {40, 0}, {0, -1}, {0, 5}, {Due.LEAST, 0}, {Due.MOST, 0},
            {0, Due.LEAST}, {0, Due.MOST}};
        for (int[] a : wrong) {
            Due.is("sway(" + a[0] + ", " + a[1] + ")", x.sway(a[0], a[1]), Due.BAD);
        }
        x.row(1, 1L);
        x.find();
        Due.is("sway stays", x.sway(0, 0), 4);
        Due.is("sway stays, 39", x.sway(39, 0), 4);
    }

    private static void promise20Played() {
        plays(new int[] {0, 0, 0}, 0, 1, 2);
        plays(new int[] {0, END, 0}, 0, 1, 0, 1, 2);
        plays(new int[] {END, END}, 0, 0, 1, 0, 1);
        plays(new int[] {0, BEGIN, END, 0}, 0, 1, 2, 1, 2, 3);
        plays(new int[] {BEGIN, BEGIN, END}, 0, 1, 2, 1, 2);
        plays(new int[] {BEGIN, END, BEGIN, END}, 0, 1, 0, 1, 2, 3, 2, 3);
        plays(new int[] {0, END, 0, END}, 0, 1, 0, 1, 2, 3, 0, 1, 2, 3);
        plays(new int[] {END, BEGIN, 0}, 0, 0, 1, 2);
        plays(new int[] {0, FIRST, 0}, 0, 1, 0, 2);
        plays(new int[] {0, BEGIN, 0, FIRST, 0}, 0, 1, 2, 3, 1, 2, 4);
        plays(new int[] {FIRST, 0}, 0, 1);
        plays(new int[] {0, FIRST}, 0, 1, 0);
        plays(new int[] {0, FIRST, FIRST, 0}, 0, 1, 0, 2, 0, 3);
        plays(new int[] {0, 0, BACK}, 0, 1, 2, 0, 1, 2);
        plays(new int[] {0, BACK, 0}, 0, 1, 0, 1, 2);
        plays(new int[] {0, BEGIN, BACK}, 0, 1, 2, 0, 1, 2);
        plays(new int[] {0, END, BACK}, 0, 1, 0, 1, 2, 0, 1, 2);
        plays(new int[] {0, FIRST, 0, BACK}, 0, 1, 0, 2, 3, 0, 2, 3);
        plays(new int[] {BACK, BACK}, 0, 0, 1, 0, 1);
        plays(new int[] {FIRST}, 0);
        plays(new int[] {END}, 0, 0);
        plays(new int[] {}, new int[] {});
    }

    private static void plays(int[] sways, int... want) {
        int[] kinds = new int[sways.length * 2];
        for (int m = 0; m < sways.length; m++) {
            kinds[2 * m] = WHOLE;
            kinds[2 * m + 1] = BAR;
        }
        ScoreReader x = Boards.said(kinds);
        for (int m = 0; m < sways.length; m++) {
            x.sway(m, sways[m]);
        }
        String way = "played with " + java.util.Arrays.toString(sways) + ": ";
        for (int i = 0; i < want.length; i++) {
            Due.is(way + i, x.played(i), want[i]);
        }
        Due.is(way + "its end", x.played(want.length), Due.NONE);
        Due.is(way + "199", x.played(199), Due.NONE);
        Due.is(way + "the first again", x.played(0), want.length == 0 ? Due.NONE : want[0]);
    }

    /** Twenty measures, each with END: 1 + 2 + .. + 20 and 20 more would be 230. */
    private static void promise20AtMost200() {
        ScoreReader x = new ScoreReader();
        for (int i = 0; i < 40; i++) {
            x.ink(i % 20 * 3, i / 20 * 3, 1, 1, true);
        }
        x.find();
        for (int k = 0; k < 40; k++) {
            x.correct(k, k % 2 == 0 ? WHOLE : BAR);
        }
        Due.is("twenty measures", x.measures(), 20);
        for (int m = 0; m < 40; m++) {
            x.sway(m, END);
        }
        int i = 0;
        for (int end = 0; end < 20; end++) {
            for (int m = 0; m <= end && i < 200; m++) {
                Due.is("played(" + i + ") of twenty ENDS", x.played(i), m);
                i++;
            }
        }
        Due.is("played up to 200", i, 200);
        Due.is("played(200)", x.played(200), Due.BAD);
    }

    private static void promise20Refused() {
        ScoreReader x = new ScoreReader();
        int[] wrong = {-1, 200, Due.LEAST, Due.MOST};
        for (int i : wrong) {
            Due.is("played(" + i + ") not found", x.played(i), Due.BAD);
        }
        Due.is("played(0) not found", x.played(0), Due.NOT);
        Due.is("played(199) not found", x.played(199), Due.NOT);
        x.row(1, 1L);
        x.find();
        x.correct(0, DOT);
        Due.is("played(0), no READING", x.played(0), Due.NOT);
        for (int i : wrong) {
            Due.is("played(" + i + "), no READING", x.played(i), Due.BAD);
        }
    }

    private static void promise21Count() {
        ScoreReader x = Boards.staff(8, 4);
        Due.is("count(0) not found", x.count(0), Due.NONE);
        Due.is("count(1)", x.count(1), 1);
        Due.is("count(2)", x.count(2), 4);
        Due.is("count(4)", x.count(4), 300);
        x.find();
        Due.is("count(0), no signs", x.count(0), 0);
        x.ink(3, 2, 2, 2, true);
        x.ink(9, 2, 2, 2, true);
        x.find();
        x.correct(0, 6);
        x.correct(1, 0);
        Due.is("count(0)", x.count(0), 2);
        Due.is("count(3)", x.count(3), 2);
        Due.is("count(4) with signs", x.count(4), 308);
        x.row(8, 0L);
        Due.is("count(0) changed", x.count(0), Due.NONE);
        Due.is("count(1) without", x.count(1), 0);
        Due.is("count(2) without", x.count(2), Due.NONE);
        Due.is("count(3) not found", x.count(3), 2);
        int[] wrong = {-1, 5, Due.LEAST, Due.MOST};
        for (int what : wrong) {
            Due.is("count(" + what + ")", x.count(what), Due.BAD);
        }
    }
}
