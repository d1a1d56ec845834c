/** Promises 13 to 16: the best reading, and what is doubtful in it. */
public final class ReadingTest {
    private static final int QUARTER = 0, HALF = 1, WHOLE = 2, REST = 3, DOT = 4, BAR = 5, DIRT = 6;

    public static void main(String[] args) {
        promise13Readings();
        promise13OddTime();
        promise13NoSigns();
        promise14TheFirstOfSeveral();
        promise14Refused();
        promise15Doubt();
        promise15DoubtAnew();
        promise15Refused();
        promise16Question();
        theDearest();
        Due.end("ReadingTest");
    }

    /** What a corrector says of all signs is a READING, or none. */
    private static void promise13Readings() {
        reads(16, true, WHOLE);
        reads(16, false, QUARTER);
        reads(16, true, QUARTER, QUARTER, HALF);
        reads(16, true, REST, QUARTER, HALF);
        reads(16, false, QUARTER, QUARTER, HALF, QUARTER);
        reads(16, true, BAR);
        reads(16, true, BAR, BAR);
        reads(16, true, BAR, WHOLE, BAR, BAR, WHOLE, BAR);
        reads(16, true, WHOLE, BAR, HALF, HALF);
        reads(16, false, HALF, BAR, HALF);
        reads(16, false, WHOLE, BAR, HALF);
        reads(16, false, HALF, BAR, WHOLE);
        reads(16, true, DIRT, WHOLE, DIRT);
        reads(16, true, DIRT);
        reads(12, true, HALF, DOT);
        reads(6, true, QUARTER, DOT);
        reads(6, false, REST, DOT);
        reads(24, false, WHOLE, DOT);
        reads(24, false, WHOLE, QUARTER);
        reads(12, true, HALF, DIRT, DIRT, DOT);
        reads(12, false, HALF, BAR, DOT);
        reads(8, false, DOT, QUARTER);
        reads(9, false, QUARTER, DOT, DOT);
        reads(8, false, QUARTER, DOT, DOT);
        reads(10, true, QUARTER, DOT, REST);
        reads(6, false, DOT);
        reads(12, true, QUARTER, DOT, QUARTER, DOT, BAR, HALF, DOT, BAR);
        reads(48, true, WHOLE, WHOLE, WHOLE);
        reads(48, true, HALF, DOT, HALF, DOT, HALF, DOT, HALF, DOT);
        reads(2, false, QUARTER);
        reads(2, true, BAR, DIRT);
        reads(4, true, REST, BAR, QUARTER);
    }

    private static void reads(int time, boolean stands, int... kinds) {
        ScoreReader x = Boards.said(kinds);
        x.set(1, time);
        String call = java.util.Arrays.toString(kinds) + " in " + time + ": ";
        Due.is(call + "best()", x.best(), stands ? 0 : Due.NOT);
        Due.is(call + "question()", x.question(), stands ? Due.NONE : Due.NOT);
        for (int k = 0; k < kinds.length; k++) {
            Due.is(call + "read(" + k + ")", x.read(k), stands ? kinds[k] : Due.NOT);
            Due.is(call + "doubt(" + k + ")", x.doubt(k), stands ? Due.NONE : Due.NOT);
        }
    }

    private static void promise13OddTime() {
        ScoreReader x = Boards.signs(1, 1, 1);
        for (int time = 3; time < 48; time += 2) {
            x.set(1, time);
            Due.is("an odd TIME is never full, " + time, x.read(0), BAR);
            Due.is("an odd TIME: best()", x.best(), 150);
        }
        for (int time = 4; time <= 48; time += 4) {
            x.set(1, time);
            Due.is("three signs in " + time, x.best(), 150);
        }
    }

    private static void promise13NoSigns() {
        ScoreReader x = new ScoreReader();
        Due.is("not found: best()", x.best(), Due.NOT);
        x.find();
        Due.is("no signs: best()", x.best(), 0);
        Due.is("no signs: question()", x.question(), Due.NONE);
        Due.is("no signs: read(0)", x.read(0), Due.BAD);
        Due.is("no signs: doubt(0)", x.doubt(0), Due.BAD);
        x.row(5, 1L);
        Due.is("changed: best()", x.best(), Due.NOT);
    }

    private static void promise14TheFirstOfSeveral() {
        best(16, 50, WHOLE);
        best(8, 50, HALF);
        best(4, 50, QUARTER);
        best(4, 100, QUARTER, BAR);
        best(12, 100, QUARTER, HALF);
        best(6, 100, QUARTER, DOT);
        best(8, 100, QUARTER, QUARTER);
        best(16, 150, QUARTER, QUARTER, HALF);
        best(14, 150, QUARTER, DOT, HALF);
        best(18, 150, BAR, BAR, BAR);
        best(10, 150, QUARTER, QUARTER, DOT);
        ScoreReader x = Boards.signs(1);
        x.set(0, 50);
        Due.is("DIRT is behind all KINDS", x.read(0), WHOLE);
        x.set(0, 49);
        Due.is("DIRT is less", x.read(0), DIRT);
        x.set(0, 50);
        x.set(1, 2);
        Due.is("DIRT is behind a BAR", x.read(0), BAR);
    }

    private static void best(int time, int cost, int... want) {
        int[] areas = new int[want.length];
        java.util.Arrays.fill(areas, 1);
        ScoreReader x = Boards.signs(areas);
        x.set(1, time);
        Due.is("best() in " + time, x.best(), cost);
        for (int k = 0; k < want.length; k++) {
            Due.is("read(" + k + ") of " + want.length + " in " + time, x.read(k), want[k]);
        }
    }

    private static void promise14Refused() {
        refusedAlike("read", true);
    }

    private static void promise15Refused() {
        refusedAlike("doubt", false);
    }

    private static void refusedAlike(String call, boolean read) {
        ScoreReader x = Boards.signs(1, 1);
        int[] wrong = {-1, 2, 39, 40, Due.LEAST, Due.MOST};
        for (int k : wrong) {
            Due.is(call + "(" + k + ")", read ? x.read(k) : x.doubt(k), Due.BAD);
        }
        x.correct(0, 4);
        Due.is(call + "(0), no READING", read ? x.read(0) : x.doubt(0), Due.NOT);
        Due.is(call + "(2), BAD ahead of no READING", read ? x.read(2) : x.doubt(2), Due.BAD);
        x.row(30, 1L);
        Due.is(call + "(0), not found", read ? x.read(0) : x.doubt(0), Due.NOT);
        Due.is(call + "(-1), not found", read ? x.read(-1) : x.doubt(-1), Due.BAD);
        Due.is(call + "(40), not found", read ? x.read(40) : x.doubt(40), Due.BAD);
    }

    /** A QUARTER may be a HALF of two more, a BAR costs 7; DIRT costs 60. */
    private static void promise15Doubt() {
        ScoreReader x = Boards.signs(1, 1);
        x.set(1, 8);
        x.kind(0, 1, 2000, 1, 10);
        x.kind(1, 1, 2000, 1, 12);
        x.kind(5, 1, 2000, 1, 17);
        Due.is("doubt: best()", x.best(), 20);
        Due.is("doubt: read(0)", x.read(0), QUARTER);
        Due.is("doubt(0): HALF and BAR", x.doubt(0), 9);
        Due.is("doubt(1): BAR and HALF", x.doubt(1), 9);
        x.correct(1, 0);
        Due.is("doubt(0) with the other said: REST", x.doubt(0), 40);
        Due.is("doubt(1): said", x.doubt(1), Due.NONE);
        x.correct(1, -1);
        x.correct(0, 1);
        Due.is("doubt: best() behind a HALF", x.best(), 17);
        Due.is("doubt(1): BAR or DIRT", x.doubt(1), 43);
        x.set(0, 18);
        Due.is("doubt(1): DIRT is nearer", x.doubt(1), 1);
        x.correct(1, 5);
        Due.is("doubt(0), none is left", x.doubt(0), Due.NONE);

        ScoreReader y = Boards.said(0, 0);
        y.set(1, 8);
        y.correct(1, -1);
        y.kind(0, 1, 1, 1, 20);
        Due.is("doubt: QUARTER or REST", y.doubt(1), 30);
        y.kind(3, 0, 0, 2, 100);
        Due.is("doubt: none but a dear REST", y.doubt(1), 86);
    }

    /** What was worked for other KINDS and SIGNS is not left over. */
    private static void promise15DoubtAnew() {
        ScoreReader x = Boards.signs(1, 1);
        x.set(1, 8);
        x.kind(0, 1, 2000, 1, 0);
        x.kind(1, 1, 2000, 1, 30);
        Due.is("doubt(0) of two QUARTERS", x.doubt(0), 50);
        x.kind(0, 1, 2000, 1, 90);
        x.kind(3, 1, 2000, 1, 90);
        Due.is("doubt anew: best()", x.best(), 80);
        Due.is("doubt anew: doubt(0), HALF and BAR, or BAR and HALF", x.doubt(0), 0);
        Due.is("doubt anew: doubt(1)", x.doubt(1), 0);
        x.kind(5, 1, 2000, 1, 100);
        Due.is("doubt anew: best() with DIRT", x.best(), 90);
        x.correct(0, 5);
        x.set(0, 29);
        Due.is("doubt anew: best() behind a BAR", x.best(), 29);
        Due.is("doubt anew: doubt(1), a HALF", x.doubt(1), 1);
        x.correct(0, -1);
        x.set(0, 35);
        x.set(1, 16);
        Due.is("doubt anew: two HALVES", x.best(), 60);
        Due.is("doubt anew: doubt(0), WHOLE and DIRT, two DIRT", x.doubt(0), 10);
        x.row(31, 1L << 50);
        x.find();
        x.set(1, 8);
        Due.is("doubt anew: best() of three", x.best(), 100);
        Due.is("doubt anew: doubt(2) of three", x.doubt(2), 0);
        ScoreReader y = Boards.signs(1);
        y.set(1, 4);
        y.kind(0, 1, 2000, 1, 0);
        y.kind(1, 1, 2000, 1, 10);
        Due.is("doubt anew: doubt(0) of a QUARTER in 4", y.doubt(0), 50);
        y.set(1, 8);
        Due.is("doubt anew: doubt(0) of a HALF in 8", y.doubt(0), 40);
        Due.is("doubt anew: question()", y.question(), 0);
    }

    private static void promise16Question() {
        ScoreReader x = Boards.signs(1, 2, 3);
        for (int kind = 0; kind < 6; kind++) {
            x.kind(kind, 2000, 2000, 1, 100);
        }
        x.set(0, 10);
        x.set(1, 3);
        x.kind(5, 3, 3, 1, 11);
        Due.is("question: best()", x.best(), 30);
        Due.is("question: doubt(0)", x.doubt(0), 3);
        Due.is("question: doubt(1)", x.doubt(1), 2);
        Due.is("question: doubt(2)", x.doubt(2), 1);
        Due.is("question()", x.question(), 2);
        x.correct(2, 6);
        Due.is("question() behind an answer", x.question(), 1);
        x.correct(1, 5);
        Due.is("question() behind two", x.question(), 0);
        x.correct(0, 6);
        Due.is("question() behind all", x.question(), Due.NONE);
        x.correct(0, 4);
        Due.is("question(), no READING", x.question(), Due.NOT);
        ScoreReader y = Boards.signs(1, 1, 1);
        y.set(1, 3);
        Due.is("question() of several", y.question(), 0);
        y.correct(0, 5);
        Due.is("question() of the others", y.question(), 1);
        y.row(30, 1L);
        Due.is("question() not found", y.question(), Due.NOT);
    }

    private static void theDearest() {
        ScoreReader x = new ScoreReader();
        for (int i = 0; i < 40; i++) {
            x.ink(i % 20 * 3, i / 20 * 3, 1, 1, true);
        }
        x.find();
        for (int kind = 0; kind < 6; kind++) {
            x.kind(kind, 2000, 2000, 32, 100);
        }
        x.set(0, 1000);
        Due.is("40 DIRT", x.best(), 40000);
        for (int k = 0; k < 40; k++) {
            Due.is("doubt(" + k + ") of 40 DIRT", x.doubt(k), 2254 - 1000);
        }
        for (int k = 0; k < 39; k++) {
            x.correct(k, 5);
        }
        Due.is("39 said", x.best(), 1000);
        Due.is("39 said: doubt(39)", x.doubt(39), 1254);
    }
}
