import java.util.Arrays;

/** Promises 17 to 19 and 21, sentence by sentence where the document names an edge. */
public final class MeasuresEdgesTest {
    private static final int QUARTER = 0, HALF = 1, WHOLE = 2, REST = 3, DOT = 4, BAR = 5, DIRT = 6;
    private static final int[] NO_INTS = {-1, Due.LEAST, Due.LEAST + 1, Due.MOST, Due.MOST - 1};

    public static void main(String[] args) {
        promise17NoMeasure();
        promise17WhereThereIsSomething();
        promise17AheadBetweenBehind();
        promise17TheMost();
        promise17Not();
        promise17FollowsEachChange();
        promise18Bounds();
        promise18Not();
        promise18NotesAreNoRestsAndDots();
        promise18TimesWithDots();
        promise18Steps();
        promise18TheMostNotes();
        promise18TheLastMeasure();
        promise19Bounds();
        promise19WhichItWas();
        promise19OfMeasuresThatAreNot();
        promise19Stays();
        promise21Bounds();
        promise21Signs();
        promise21StaffAndGap();
        promise21WhatWasSaid();
        promise21BlackDots();
        Due.end("MeasuresEdgesTest");
    }

    private static void measures(int want, int... kinds) {
        ScoreReader x = Boards.said(kinds);
        String call = Arrays.toString(kinds) + ": ";
        Due.is(call + "measures()", x.measures(), want);
        Due.is(call + "played of the last", x.played(Math.max(0, want - 1)), want == 0 ? Due.NONE : want - 1);
        Due.is(call + "played behind the last", x.played(want), Due.NONE);
    }

    private static void promise17NoMeasure() {
        ScoreReader x = new ScoreReader();
        x.find();
        Due.is("no SIGN: measures()", x.measures(), 0);
        Due.is("no SIGN: note(0, 0, 0)", x.note(0, 0, 0), Due.LEAST);
        Due.is("no SIGN: played(0)", x.played(0), Due.NONE);
        Due.is("no SIGN: played(199)", x.played(199), Due.NONE);
        Due.is("no SIGN: sway(0, 2)", x.sway(0, 2), 0);
        Due.is("no SIGN: played(0) with END", x.played(0), Due.NONE);
        measures(0, BAR);
        measures(0, DIRT);
        measures(0, BAR, BAR, BAR);
        measures(0, DIRT, BAR, DIRT, BAR, DIRT);
    }

    // "where there is something": a REST is, what is DIRT is not
    private static void promise17WhereThereIsSomething() {
        measures(1, REST, REST, REST, REST);
        measures(1, BAR, REST, REST, REST, REST, BAR);
        measures(2, WHOLE, BAR, DIRT, BAR, WHOLE);
        measures(2, WHOLE, DIRT, BAR, BAR, BAR, DIRT, WHOLE);
        measures(1, DIRT, BAR, WHOLE, BAR, DIRT);
    }

    // "what stands between BARS (ahead of, behind them)"
    private static void promise17AheadBetweenBehind() {
        measures(1, WHOLE);
        measures(1, WHOLE, BAR);
        measures(1, BAR, WHOLE);
        measures(2, WHOLE, BAR, WHOLE);
        measures(1, BAR, WHOLE, BAR);
        measures(3, WHOLE, BAR, WHOLE, BAR, WHOLE);
        measures(2, HALF, HALF, BAR, QUARTER, DIRT, QUARTER, HALF);
    }

    /** WHOLE and BAR, one behind the other, 40 SIGNS in all. */
    private static ScoreReader twenty(int firstKind) {
        ScoreReader x = Boards.found(40);
        for (int k = 0; k < 40; k++) {
            x.correct(k, (k % 2 == 0) == (firstKind == WHOLE) ? WHOLE : BAR);
        }
        return x;
    }

    private static void promise17TheMost() {
        ScoreReader x = twenty(WHOLE);
        Due.is("WHOLES and BARS: measures()", x.measures(), 20);
        Due.is("WHOLES and BARS: note(19, 0, 0)", x.note(19, 0, 0), 38);
        Due.is("WHOLES and BARS: note(20, 0, 0)", x.note(20, 0, 0), Due.LEAST);
        ScoreReader z = twenty(BAR);
        Due.is("BARS and WHOLES: measures()", z.measures(), 20);
        Due.is("BARS and WHOLES: note(19, 0, 0)", z.note(19, 0, 0), 39);
    }

    private static void promise17Not() {
        ScoreReader x = Boards.dotted(1);
        Due.is("not found: measures()", x.measures(), Due.NOT);
        x.find();
        Due.is("found: measures()", x.measures(), 1);
        x.correct(0, QUARTER);
        Due.is("no READING: measures()", x.measures(), Due.NOT);
        x.correct(0, WHOLE);
        Due.is("a READING: measures()", x.measures(), 1);
        x.ink(0, 0, 1, 1, true);
        Due.is("changed: measures()", x.measures(), Due.NOT);
    }

    private static void promise17FollowsEachChange() {
        ScoreReader x = Boards.found(3);
        x.correct(1, BAR);
        Due.is("WHOLE, BAR, WHOLE: measures()", x.measures(), 2);
        x.kind(WHOLE, 1, 1, 1, 51);
        Due.is("a dear WHOLE: measures()", x.measures(), 0);
        x.set(1, 4);
        Due.is("QUARTER, BAR, QUARTER: measures()", x.measures(), 2);
        x.set(0, 10);
        Due.is("DIRT, BAR, DIRT: measures()", x.measures(), 0);
        x.correct(2, REST);
        Due.is("DIRT, BAR, REST: measures()", x.measures(), 1);
    }

    private static void noNote(ScoreReader x, int measure, int i) {
        for (int what = 0; what < 3; what++) {
            Due.is("note(" + measure + ", " + i + ", " + what + ")", x.note(measure, i, what), Due.LEAST);
        }
    }

    private static void note(ScoreReader x, int measure, int i, int sign, int time) {
        Due.is("note(" + measure + ", " + i + ", 0)", x.note(measure, i, 0), sign);
        Due.is("note(" + measure + ", " + i + ", 1)", x.note(measure, i, 1), x.sign(sign, 5));
        Due.is("note(" + measure + ", " + i + ", 2)", x.note(measure, i, 2), time);
    }

    // "The least int: BAD": no such MEASURE, no such NOTE of it, nor 'what'; alone and together
    private static void promise18Bounds() {
        ScoreReader x = Boards.said(HALF, HALF, BAR, QUARTER, QUARTER, HALF);
        note(x, 0, 0, 0, 8);
        note(x, 0, 1, 1, 8);
        noNote(x, 0, 2);
        note(x, 1, 0, 3, 4);
        note(x, 1, 2, 5, 8);
        noNote(x, 1, 3);
        noNote(x, 2, 0);
        noNote(x, 39, 0);
        noNote(x, 40, 0);
        noNote(x, 2, 3);
        Due.is("note(0, 0, 3)", x.note(0, 0, 3), Due.LEAST);
        Due.is("note(2, 0, 3)", x.note(2, 0, 3), Due.LEAST);
        Due.is("note(0, 2, 3)", x.note(0, 2, 3), Due.LEAST);
        for (int v : NO_INTS) {
            noNote(x, v, 0);
            noNote(x, 0, v);
            noNote(x, v, v);
            Due.is("note(0, 0, " + v + ")", x.note(0, 0, v), Due.LEAST);
            Due.is("note(" + v + ", " + v + ", " + v + ")", x.note(v, v, v), Due.LEAST);
        }
        note(x, 0, 0, 0, 8);
    }

    // "The least int: .. NOT"
    private static void promise18Not() {
        ScoreReader x = Boards.dotted(1);
        noNote(x, 0, 0);
        x.find();
        note(x, 0, 0, 0, 16);
        x.correct(0, QUARTER);
        noNote(x, 0, 0);
        x.correct(0, WHOLE);
        note(x, 0, 0, 0, 16);
        x.run(40);
        noNote(x, 0, 0);
        x.find();
        note(x, 0, 0, 0, 16);
        x.correct(0, BAR);
        noNote(x, 0, 0);
    }

    // "NOTES of it: QUARTERS, HALVES, WHOLES"
    private static void promise18NotesAreNoRestsAndDots() {
        ScoreReader x = Boards.said(REST, REST, REST, REST, BAR, REST, QUARTER, DIRT, REST, QUARTER,
                BAR, DIRT, QUARTER, DOT, QUARTER, DOT, QUARTER);
        Due.is("RESTS and DOTS: measures()", x.measures(), 3);
        noNote(x, 0, 0);
        note(x, 1, 0, 6, 4);
        note(x, 1, 1, 9, 4);
        noNote(x, 1, 2);
        note(x, 2, 0, 12, 6);
        note(x, 2, 1, 14, 6);
        note(x, 2, 2, 16, 4);
        noNote(x, 2, 3);
        noNote(x, 3, 0);
    }

    // "TIME (with its DOT)"
    private static void promise18TimesWithDots() {
        ScoreReader x = Boards.said(QUARTER, DOT, HALF, DOT, QUARTER, DIRT, DOT, HALF, DIRT, DIRT, DOT);
        x.set(1, 36);
        note(x, 0, 0, 0, 6);
        note(x, 0, 1, 2, 12);
        note(x, 0, 2, 4, 6);
        note(x, 0, 3, 7, 12);
        noNote(x, 0, 4);
        ScoreReader z = Boards.said(WHOLE, HALF, QUARTER);
        z.set(1, 28);
        note(z, 0, 0, 0, 16);
        note(z, 0, 1, 1, 8);
        note(z, 0, 2, 2, 4);
        Due.is("read again: best()", z.best(), 0);
        note(z, 0, 2, 2, 4);
    }

    // "1 STEP (as sign() tells it)"
    private static void promise18Steps() {
        ScoreReader x = Boards.staff(8, 4);
        int[] rows = {0, 10, 14, 26, 31};
        int[] steps = {12, 7, 5, -1, -4};
        for (int i = 0; i < 5; i++) {
            x.ink(10 * i, rows[i], 1, 1, true);
        }
        Due.is("five NOTES: find()", x.find(), 5);
        for (int k = 0; k < 5; k++) {
            x.correct(k, QUARTER);
        }
        x.set(1, 20);
        for (int i = 0; i < 5; i++) {
            Due.is("five NOTES: note(0, " + i + ", 1)", x.note(0, i, 1), steps[i]);
        }
        ScoreReader z = Boards.said(WHOLE);
        Due.is("without a STAFF: note(0, 0, 1)", z.note(0, 0, 1), -1001);
    }

    private static void promise18TheMostNotes() {
        ScoreReader x = Boards.found(40);
        x.set(1, 48);
        for (int k = 0; k < 40; k++) {
            x.correct(k, k % 13 == 12 ? BAR : k == 39 ? DIRT : QUARTER);
        }
        Due.is("three by twelve: measures()", x.measures(), 3);
        for (int i = 0; i < 12; i++) {
            Due.is("three by twelve: note(2, " + i + ", 0)", x.note(2, i, 0), 26 + i);
            Due.is("three by twelve: note(0, " + i + ", 2)", x.note(0, i, 2), 4);
        }
        noNote(x, 2, 12);
        noNote(x, 0, 12);
    }

    private static void promise18TheLastMeasure() {
        ScoreReader x = twenty(WHOLE);
        for (int m = 0; m < 20; m++) {
            Due.is("twenty: note(" + m + ", 0, 0)", x.note(m, 0, 0), 2 * m);
            Due.is("twenty: note(" + m + ", 1, 0)", x.note(m, 1, 0), Due.LEAST);
        }
        x.correct(38, DIRT);
        noNote(x, 19, 0);
        note(x, 18, 0, 36, 16);
        x.correct(0, DIRT);
        note(x, 0, 0, 2, 16);
        noNote(x, 18, 0);
    }

    // "(by number, 0 .. 39): 0 none, .. 4 BACK"
    private static void promise19Bounds() {
        ScoreReader x = new ScoreReader();
        for (int v = 0; v <= 4; v++) {
            Due.is("sway(0, " + v + ")", x.sway(0, v), Math.max(0, v - 1));
            Due.is("sway(39, " + v + ")", x.sway(39, v), Math.max(0, v - 1));
        }
        Due.is("sway(40, 0)", x.sway(40, 0), Due.BAD);
        Due.is("sway(0, 5)", x.sway(0, 5), Due.BAD);
        Due.is("sway(40, 5)", x.sway(40, 5), Due.BAD);
        for (int v : NO_INTS) {
            Due.is("sway(" + v + ", 0)", x.sway(v, 0), Due.BAD);
            Due.is("sway(39, " + v + ")", x.sway(39, v), Due.BAD);
            Due.is("sway(" + v + ", " + v + ")", x.sway(v, v), Due.BAD);
        }
        Due.is("sway refused: 0", x.sway(0, 0), 4);
        Due.is("sway refused: 39", x.sway(39, 0), 4);
    }

    // "which it was", of each MEASURE its own
    private static void promise19WhichItWas() {
        ScoreReader x = new ScoreReader();
        for (int m = 0; m < 40; m++) {
            Due.is("sway(" + m + ", ..) at first", x.sway(m, m % 5), 0);
        }
        for (int m = 39; m >= 0; m--) {
            Due.is("sway(" + m + ", ..) then", x.sway(m, 0), m % 5);
        }
    }

    // SIGNS OF WAY may be told ahead of MEASURES, and of those that never come.
    private static void promise19OfMeasuresThatAreNot() {
        ScoreReader x = Boards.said(WHOLE, BAR, WHOLE);
        for (int m = 2; m < 40; m++) {
            Due.is("sway(" + m + ", BACK)", x.sway(m, 4), 0);
        }
        int[] want = {0, 1, Due.NONE};
        for (int i = 0; i < 3; i++) {
            Due.is("ways of others: played(" + i + ")", x.played(i), want[i]);
        }
        Due.is("sway(1, BACK)", x.sway(1, 4), 0);
        Due.is("way of the last: played(2)", x.played(2), 0);
    }

    private static void promise19Stays() {
        ScoreReader x = new ScoreReader();
        Due.is("new: sway(0, END)", x.sway(0, 2), 0);
        x.ink(0, 0, 1, 1, true);
        x.find();
        Due.is("told ahead of all: played(1)", x.played(1), 0);
        x.ink(9, 0, 1, 1, true);
        x.find();
        x.correct(1, DIRT);
        Due.is("another number found: played(1)", x.played(1), 0);
        x.run(12);
        Due.is("not found: sway(0, END)", x.sway(0, 2), 2);
        Due.is("not found: played(1)", x.played(1), Due.NOT);
        x.find();
        Due.is("found: played(2)", x.played(2), Due.NONE);
        Due.is("found: sway(0, 0)", x.sway(0, 0), 2);
        Due.is("none: played(1)", x.played(1), Due.NONE);
    }

    // "0 SIGNS .. 4 black dots of THE BOARD. BAD."
    private static void promise21Bounds() {
        ScoreReader x = new ScoreReader();
        Due.is("count(0)", x.count(0), Due.NONE);
        Due.is("count(4)", x.count(4), 0);
        Due.is("count(5)", x.count(5), Due.BAD);
        for (int v : NO_INTS) {
            Due.is("count(" + v + ")", x.count(v), Due.BAD);
        }
        x.find();
        Due.is("found: count(5)", x.count(5), Due.BAD);
        Due.is("found: count(-1)", x.count(-1), Due.BAD);
    }

    // "0 SIGNS (NONE: not found)"
    private static void promise21Signs() {
        for (int size = 0; size <= 40; size += 10) {
            ScoreReader x = Boards.dotted(size);
            Due.is("not found: count(0)", x.count(0), Due.NONE);
            x.find();
            Due.is("found: count(0)", x.count(0), size);
            if (size > 0) {
                x.correct(0, DOT);
                Due.is("no READING: count(0)", x.count(0), size);
            }
            x.row(31, 0L);
            Due.is("changed: count(0)", x.count(0), Due.NONE);
        }
        ScoreReader x = Boards.dotted(41);
        x.find();
        Due.is("FULL: count(0)", x.count(0), Due.NONE);
    }

    // "1 whether there is a STAFF (1, 0), 2 GAP (NONE)"
    private static void promise21StaffAndGap() {
        ScoreReader x = Boards.ruled(0, 7, 14, 21);
        Due.is("four LINES: count(1)", x.count(1), 0);
        Due.is("four LINES: count(2)", x.count(2), Due.NONE);
        x.row(28, Boards.BLACK);
        Due.is("five LINES: count(1)", x.count(1), 1);
        Due.is("five LINES: count(2)", x.count(2), 7);
        x.row(28, Boards.WHITE);
        x.row(29, Boards.BLACK);
        Due.is("the last 8 lower: count(2)", x.count(2), 7);
        x.row(29, Boards.WHITE);
        x.row(30, Boards.BLACK);
        Due.is("the last 9 lower: count(1)", x.count(1), 0);
        Due.is("the last 9 lower: count(2)", x.count(2), Due.NONE);
        Due.is("least GAP", Boards.staff(0, 2).count(2), 2);
        Due.is("greatest GAP", Boards.ruled(0, 8, 16, 24, 31).count(2), 8);
    }

    // "3 signs that a CORRECTOR said"
    private static void promise21WhatWasSaid() {
        ScoreReader x = Boards.found(40);
        for (int k = 0; k < 40; k++) {
            Due.is("count(3) ahead of " + k, x.count(3), k);
            x.correct(k, k % 7);
        }
        Due.is("count(3) of all", x.count(3), 40);
        x.correct(0, DIRT);
        Due.is("said anew: count(3)", x.count(3), 40);
        x.row(31, 0L);
        Due.is("not found: count(3)", x.count(3), 40);
        x.find();
        Due.is("found anew: count(3)", x.count(3), 40);
        for (int k = 0; k < 40; k++) {
            x.correct(k, -1);
            Due.is("count(3) behind " + k, x.count(3), 39 - k);
        }
        x.correct(0, -1);
        Due.is("nothing to take back: count(3)", x.count(3), 0);
    }

    // "4 black dots of THE BOARD"
    private static void promise21BlackDots() {
        ScoreReader x = new ScoreReader();
        Due.is("white: count(4)", x.count(4), 0);
        x.ink(59, 31, 1, 1, true);
        Due.is("one dot: count(4)", x.count(4), 1);
        x.ink(0, 0, 60, 32, true);
        Due.is("all: count(4)", x.count(4), 1920);
        x.find();
        Due.is("found: count(4)", x.count(4), 1920);
        x.row(0, Boards.WHITE);
        Due.is("all but a row: count(4)", x.count(4), 1860);
    }
}
