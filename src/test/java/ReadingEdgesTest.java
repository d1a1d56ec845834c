import java.util.Arrays;

/** Promises 13 to 16, sentence by sentence where the document names an edge. */
public final class ReadingEdgesTest {
    private static final int QUARTER = 0, HALF = 1, WHOLE = 2, REST = 3, DOT = 4, BAR = 5, DIRT = 6;
    private static final int[] NO_INTS = {-1, Due.LEAST, Due.LEAST + 1, Due.MOST, Due.MOST - 1};

    public static void main(String[] args) {
        promise13DotRightBehind();
        promise13DirtIsLeftOut();
        promise13TimesOfEachKind();
        promise13AheadBetweenBehindBars();
        promise13OrNothingAtAll();
        promise13LeastTime();
        promise13GreatestTime();
        promise13OddTimes();
        promise13FullByOneMoreOrLess();
        promise13NotFound();
        promise13NoSign();
        promise13NoReading();
        promise13LeastAndGreatestCost();
        promise13FollowsEachChange();
        promise14TheFirstOfThree();
        promise14FirstBySignNought();
        promise14DirtBehindAllKinds();
        promise14CheaperAheadOfFirst();
        promise14Bounds();
        promise15SomethingElse();
        promise15None();
        promise15NoneThoughNothingWasSaid();
        promise15Nought();
        promise15AnyOtherReading();
        promise15Bounds();
        promise16TheLeast();
        promise16OfSeveralTheFirst();
        promise16NoneHasDoubt();
        promise16Not();
        promise13Promise15FortySigns();
        Due.end("ReadingEdgesTest");
    }

    private static void due(String call, ScoreReader x, boolean stands, int... kinds) {
        Due.is(call + "best()", x.best(), stands ? 0 : Due.NOT);
        for (int k = 0; k < kinds.length; k++) {
            Due.is(call + "read(" + k + ")", x.read(k), stands ? kinds[k] : Due.NOT);
        }
    }

    /** Whether what a corrector said of all is a READING in a TIME. */
    private static void reads(boolean stands, int time, int... kinds) {
        ScoreReader x = Boards.said(kinds);
        x.set(1, time);
        due(Arrays.toString(kinds) + " in " + time + ": ", x, stands, kinds);
    }

    // "a DOT comes right behind a QUARTER or HALF"; whatever the time, no other may be ahead
    private static void promise13DotRightBehind() {
        for (int time = 2; time <= 48; time += 2) {
            reads(time == 6, time, QUARTER, DOT);
            reads(time == 12, time, HALF, DOT);
            reads(false, time, DOT);
            reads(false, time, WHOLE, DOT);
            reads(false, time, REST, DOT);
            reads(false, time, BAR, DOT);
            reads(false, time, QUARTER, DOT, DOT);
            reads(false, time, HALF, DOT, DOT);
            reads(false, time, QUARTER, BAR, DOT);
            reads(false, time, QUARTER, REST, DOT);
            reads(false, time, DOT, QUARTER);
        }
        reads(true, 12, QUARTER, DOT, QUARTER, DOT);
        reads(true, 10, QUARTER, QUARTER, DOT);
        reads(true, 10, QUARTER, DOT, QUARTER);
        reads(true, 16, REST, HALF, DOT);
    }

    // "with what is DIRT left out"
    private static void promise13DirtIsLeftOut() {
        reads(true, 6, QUARTER, DIRT, DOT);
        reads(true, 12, DIRT, HALF, DIRT, DIRT, DOT, DIRT);
        reads(false, 6, DIRT, DOT);
        reads(false, 6, DIRT, DIRT, DOT, QUARTER);
        reads(false, 6, QUARTER, DOT, DIRT, DOT);
        reads(false, 8, QUARTER, DOT, DIRT, DOT);
        reads(false, 6, REST, DIRT, DOT);
        reads(false, 18, WHOLE, DIRT, DOT);
        reads(true, 16, BAR, DIRT, BAR);
        reads(true, 16, BAR, DIRT, WHOLE, DIRT, BAR, DIRT);
        reads(true, 16, DIRT, DIRT, DIRT);
    }

    // "TIMES (QUARTER 4, HALF 8, WHOLE 16, REST 4, a DOT half of the one ahead more)"
    private static void promise13TimesOfEachKind() {
        for (int time = 2; time <= 48; time++) {
            reads(time == 4, time, QUARTER);
            reads(time == 8, time, HALF);
            reads(time == 16, time, WHOLE);
            reads(time == 4, time, REST);
            reads(time == 34, time, QUARTER, DOT, WHOLE, HALF, DOT);
            reads(true, time, BAR);
            reads(true, time, DIRT);
        }
    }

    // "between two BARS that follow one another, ahead of the first BAR, and behind the last one"
    private static void promise13AheadBetweenBehindBars() {
        int[][] parts = {{HALF}, {QUARTER, REST}, {}};
        int[][] wrongs = {{QUARTER}, {WHOLE}, {HALF, QUARTER}, {QUARTER, DOT}, {REST, HALF}};
        for (int[] ahead : parts) {
            for (int[] between : parts) {
                for (int[] behind : parts) {
                    reads(true, 8, join(ahead, between, behind));
                }
            }
        }
        for (int[] wrong : wrongs) {
            for (int[] part : parts) {
                reads(false, 8, join(wrong, part, part));
                reads(false, 8, join(part, wrong, part));
                reads(false, 8, join(part, part, wrong));
            }
        }
        reads(false, 16, HALF, BAR, HALF);
        reads(false, 16, HALF, BAR, BAR, HALF);
    }

    private static int[] join(int[] ahead, int[] between, int[] behind) {
        int[] all = Arrays.copyOf(ahead, ahead.length + between.length + behind.length + 2);
        int at = ahead.length;
        all[at] = BAR;
        System.arraycopy(between, 0, all, at + 1, between.length);
        at += 1 + between.length;
        all[at] = BAR;
        System.arraycopy(behind, 0, all, at + 1, behind.length);
        return all;
    }

    // "or there is nothing at all"
    private static void promise13OrNothingAtAll() {
        int[] bars = new int[40];
        Arrays.fill(bars, BAR);
        reads(true, 16, bars);
        reads(true, 48, bars);
        bars[20] = WHOLE;
        reads(true, 16, bars);
        reads(false, 18, bars);
        bars[20] = DIRT;
        reads(true, 18, bars);
        bars[39] = HALF;
        reads(false, 16, bars);
        reads(true, 8, bars);
        bars[39] = BAR;
        bars[0] = HALF;
        reads(false, 16, bars);
        reads(true, 8, bars);
    }

    // THE TIME 2: no KIND has so little.
    private static void promise13LeastTime() {
        ScoreReader x = Boards.found(3);
        x.set(1, 2);
        for (int kind = 0; kind < 5; kind++) {
            x.kind(kind, 0, 2000, 1, 0);
        }
        Due.is("in 2: best()", x.best(), 150);
        for (int k = 0; k < 3; k++) {
            Due.is("in 2: read(" + k + ")", x.read(k), BAR);
            Due.is("in 2: doubt(" + k + ")", x.doubt(k), 10);
        }
        x.set(0, 49);
        Due.is("in 2, DIRT 49: best()", x.best(), 147);
        Due.is("in 2, DIRT 49: read(2)", x.read(2), DIRT);
        Due.is("in 2, DIRT 49: doubt(2)", x.doubt(2), 1);
    }

    // THE TIME 48
    private static void promise13GreatestTime() {
        int[] quarters = new int[12];
        reads(true, 48, quarters);
        reads(false, 47, quarters);
        reads(false, 46, quarters);
        reads(false, 44, quarters);
        reads(false, 48, Arrays.copyOf(quarters, 11));
        reads(false, 48, new int[13]);
        reads(true, 48, WHOLE, WHOLE, WHOLE);
        reads(false, 48, WHOLE, WHOLE, WHOLE, REST);
        reads(false, 48, WHOLE, WHOLE);
        reads(true, 48, HALF, DOT, HALF, DOT, HALF, DOT, HALF, DOT);
        reads(true, 48, WHOLE, WHOLE, QUARTER, DOT, QUARTER, DOT, REST);
        reads(false, 48, WHOLE, WHOLE, QUARTER, DOT, QUARTER, DOT, QUARTER, DOT);
    }

    private static void promise13OddTimes() {
        for (int time = 3; time <= 47; time += 2) {
            reads(false, time, QUARTER);
            reads(false, time, HALF, DOT);
            reads(false, time, WHOLE, WHOLE, WHOLE);
            reads(true, time, BAR, DIRT, BAR);
            ScoreReader x = Boards.found(2);
            x.set(1, time);
            x.set(0, 51);
            Due.is("odd TIME " + time + ": best()", x.best(), 100);
            Due.is("odd TIME " + time + ": read(1)", x.read(1), BAR);
            Due.is("odd TIME " + time + ": doubt(1)", x.doubt(1), 1);
        }
    }

    private static void promise13FullByOneMoreOrLess() {
        reads(true, 16, HALF, HALF);
        reads(false, 15, HALF, HALF);
        reads(false, 17, HALF, HALF);
        reads(false, 14, HALF, HALF);
        reads(false, 18, HALF, HALF);
        reads(true, 14, HALF, QUARTER, DOT);
        reads(false, 16, HALF, QUARTER, DOT);
        reads(false, 12, HALF, QUARTER, DOT);
    }

    // "NOT: SIGNS are not found"
    private static void promise13NotFound() {
        ScoreReader x = Boards.dotted(1);
        Due.is("not found yet: best()", x.best(), Due.NOT);
        x.find();
        Due.is("found: best()", x.best(), 50);
        x.row(20, 0L);
        Due.is("behind row: best()", x.best(), Due.NOT);
        x.find();
        x.ink(9, 9, 1, 1, false);
        Due.is("behind ink: best()", x.best(), Due.NOT);
        x.find();
        x.run(40);
        Due.is("behind run: best()", x.best(), Due.NOT);
        x.find();
        Due.is("found anew: best()", x.best(), 50);
    }

    private static void promise13NoSign() {
        ScoreReader x = new ScoreReader();
        x.find();
        for (int time = 2; time <= 48; time++) {
            x.set(1, time);
            Due.is("no SIGN in " + time + ": best()", x.best(), 0);
        }
        Due.is("no SIGN: question()", x.question(), Due.NONE);
        Due.is("no SIGN: measures()", x.measures(), 0);
    }

    // "or there is no READING"
    private static void promise13NoReading() {
        ScoreReader x = Boards.said(QUARTER, QUARTER);
        Due.is("no READING: best()", x.best(), Due.NOT);
        Due.is("no READING: read(0)", x.read(0), Due.NOT);
        Due.is("no READING: doubt(1)", x.doubt(1), Due.NOT);
        Due.is("no READING: question()", x.question(), Due.NOT);
        Due.is("no READING: measures()", x.measures(), Due.NOT);
        Due.is("no READING: played(0)", x.played(0), Due.NOT);
        Due.is("no READING: note(0, 0, 0)", x.note(0, 0, 0), Due.LEAST);
        Due.is("no READING: count(0)", x.count(0), 2);
        Due.is("no READING: sign(0, 0)", x.sign(0, 0), 1);
        x.correct(1, -1);
        Due.is("one taken back: best()", x.best(), Due.NOT);
        x.set(1, 8);
        Due.is("in 8: best()", x.best(), 50);
        x.correct(1, QUARTER);
        Due.is("said again: best()", x.best(), 0);
    }

    private static void promise13LeastAndGreatestCost() {
        ScoreReader x = Boards.found(40);
        x.set(0, 0);
        Due.is("40 for nothing: best()", x.best(), 0);
        for (int kind = 0; kind < 6; kind++) {
            x.kind(kind, 2000, 2000, 32, 100);
        }
        x.set(0, 1000);
        Due.is("40 DIRT: best()", x.best(), 40000);
        for (int k = 0; k < 40; k += 2) {
            x.correct(k, BAR);
        }
        Due.is("20 DIRT: best()", x.best(), 20000);
    }

    // BEST is that of now, whatever was asked ahead of a change.
    private static void promise13FollowsEachChange() {
        ScoreReader x = Boards.found(1);
        Due.is("at first: best()", x.best(), 50);
        x.kind(WHOLE, 1, 1, 1, 30);
        Due.is("behind kind: best()", x.best(), 30);
        x.set(0, 20);
        Due.is("behind set(0, 20): best()", x.best(), 20);
        Due.is("behind set(0, 20): read(0)", x.read(0), DIRT);
        x.set(0, 40);
        Due.is("behind set(0, 40): read(0)", x.read(0), WHOLE);
        x.set(1, 8);
        Due.is("behind set(1, 8): best()", x.best(), 40);
        x.correct(0, HALF);
        Due.is("behind correct: best()", x.best(), 0);
        x.ink(10, 10, 1, 1, true);
        x.find();
        Due.is("behind find: best()", x.best(), 80);
        Due.is("behind find: read(1)", x.read(1), DIRT);
        Due.is("behind find: question()", x.question(), 0);
    }

    /** All cost alike: the first READING that all three are in. */
    private static void promise14TheFirstOfThree() {
        first(2, BAR, BAR, BAR);
        first(4, QUARTER, BAR, QUARTER);
        first(6, QUARTER, DOT, BAR);
        first(8, QUARTER, QUARTER, BAR);
        first(10, QUARTER, QUARTER, DOT);
        first(12, QUARTER, QUARTER, QUARTER);
        first(14, QUARTER, DOT, HALF);
        first(16, QUARTER, QUARTER, HALF);
        first(18, BAR, BAR, BAR);
        first(20, QUARTER, HALF, HALF);
        first(22, QUARTER, DOT, WHOLE);
        first(24, QUARTER, QUARTER, WHOLE);
        first(26, BAR, BAR, BAR);
        first(28, QUARTER, HALF, WHOLE);
        first(30, BAR, BAR, BAR);
        first(32, HALF, HALF, WHOLE);
        first(34, BAR, BAR, BAR);
        first(36, QUARTER, WHOLE, WHOLE);
        first(40, HALF, WHOLE, WHOLE);
        first(44, BAR, BAR, BAR);
        first(48, WHOLE, WHOLE, WHOLE);
    }

    private static void first(int time, int... want) {
        ScoreReader x = Boards.found(want.length);
        x.set(1, time);
        Due.is("three in " + time + ": best()", x.best(), 50 * want.length);
        for (int k = 0; k < want.length; k++) {
            Due.is("three in " + time + ": read(" + k + ")", x.read(k), want[k]);
        }
    }

    // "of several the first (by the KIND of SIGN 0, .. then of SIGN 1, and so on)"
    private static void promise14FirstBySignNought() {
        ScoreReader x = Boards.found(3);
        x.set(1, 8);
        x.kind(BAR, 1, 1, 1, 60);
        x.kind(REST, 1, 1, 1, 40);
        Due.is("QUARTER, REST ahead of REST, QUARTER: best()", x.best(), 140);
        int[] want = {REST, REST, BAR};
        for (int k = 0; k < 3; k++) {
            Due.is("two RESTS and a BAR: read(" + k + ")", x.read(k), want[k]);
        }
        x.kind(QUARTER, 1, 1, 1, 30);
        x.kind(REST, 1, 1, 1, 30);
        x.correct(1, REST);
        Due.is("all alike, one said: read(0)", x.read(0), QUARTER);
        Due.is("all alike, one said: read(1)", x.read(1), REST);
        Due.is("all alike, one said: read(2)", x.read(2), BAR);
        x.correct(2, REST);
        Due.is("two said: read(0) ", x.read(0), BAR);
        x.set(0, 60);
        x.set(1, 12);
        Due.is("two said in 12: read(0)", x.read(0), QUARTER);
    }

    // "DIRT behind all KINDS"
    private static void promise14DirtBehindAllKinds() {
        ScoreReader x = Boards.found(2);
        x.set(0, 50);
        x.kind(QUARTER, 1, 1, 1, 100);
        x.kind(HALF, 1, 1, 1, 100);
        x.kind(REST, 1, 1, 1, 100);
        Due.is("DIRT 50: best()", x.best(), 100);
        Due.is("DIRT 50: read(0)", x.read(0), WHOLE);
        Due.is("DIRT 50: read(1)", x.read(1), BAR);
        x.kind(BAR, 1, 1, 1, 51);
        Due.is("DIRT 50, BAR 51: read(0)", x.read(0), WHOLE);
        Due.is("DIRT 50, BAR 51: read(1)", x.read(1), DIRT);
        x.kind(WHOLE, 1, 1, 1, 51);
        Due.is("DIRT 50, all 51: read(0)", x.read(0), DIRT);
        Due.is("DIRT 50, all 51: read(1)", x.read(1), DIRT);
        x.set(0, 51);
        Due.is("DIRT 51, all 51: read(0)", x.read(0), WHOLE);
        Due.is("DIRT 51, all 51: read(1)", x.read(1), BAR);
        x.correct(1, WHOLE);
        Due.is("a WHOLE behind: read(0)", x.read(0), BAR);
        x.set(0, 50);
        Due.is("a WHOLE behind, DIRT 50: read(0)", x.read(0), DIRT);
    }

    // "BEST is the one that costs least": the first only of those that cost alike
    private static void promise14CheaperAheadOfFirst() {
        ScoreReader x = Boards.found(1);
        x.set(1, 4);
        x.kind(REST, 1, 1, 1, 49);
        Due.is("REST 49 ahead of QUARTER 50", x.read(0), REST);
        x.kind(BAR, 1, 1, 1, 48);
        Due.is("BAR 48 ahead of REST 49", x.read(0), BAR);
        x.set(0, 47);
        Due.is("DIRT 47 ahead of all", x.read(0), DIRT);
        x.kind(QUARTER, 1, 1, 1, 47);
        Due.is("QUARTER 47 ahead of DIRT 47", x.read(0), QUARTER);
        Due.is("QUARTER 47: best()", x.best(), 47);
    }

    private static void promise14Bounds() {
        bounds("read");
    }

    private static void promise15Bounds() {
        bounds("doubt");
    }

    private static int ask(String call, ScoreReader x, int k) {
        return call.equals("read") ? x.read(k) : x.doubt(k);
    }

    // BAD: no such SIGN; NOT: not found, no READING; BAD first.
    private static void bounds(String call) {
        for (int size : new int[] {1, 2, 39, 40}) {
            ScoreReader x = Boards.found(size);
            x.set(1, 3);
            int due = call.equals("read") ? BAR : 10;
            Due.is(call + "(0) of " + size, ask(call, x, 0), due);
            Due.is(call + " of the last of " + size, ask(call, x, size - 1), due);
            Due.is(call + "(" + size + ")", ask(call, x, size), Due.BAD);
            badOfAll(call, x);
            x.correct(0, DOT);
            Due.is(call + "(0), no READING", ask(call, x, 0), Due.NOT);
            Due.is(call + " of the last, no READING", ask(call, x, size - 1), Due.NOT);
            Due.is(call + "(" + size + "), no READING", ask(call, x, size), Due.BAD);
            badOfAll(call, x);
            x.row(20, 0L);
            Due.is(call + "(0), not found", ask(call, x, 0), Due.NOT);
            Due.is(call + "(39), not found", ask(call, x, 39), Due.NOT);
            Due.is(call + "(40), not found", ask(call, x, 40), Due.BAD);
            badOfAll(call, x);
        }
        ScoreReader x = new ScoreReader();
        Due.is(call + "(39), new", ask(call, x, 39), Due.NOT);
        Due.is(call + "(40), new", ask(call, x, 40), Due.BAD);
        badOfAll(call, x);
        x.find();
        Due.is(call + "(0), no SIGN", ask(call, x, 0), Due.BAD);
        Due.is(call + "(39), no SIGN", ask(call, x, 39), Due.BAD);
        badOfAll(call, x);
    }

    private static void badOfAll(String call, ScoreReader x) {
        for (int k : NO_INTS) {
            Due.is(call + "(" + k + ")", ask(call, x, k), Due.BAD);
        }
    }

    // "the least that a READING costs in which it is something else than in BEST, less .."
    private static void promise15SomethingElse() {
        ScoreReader x = Boards.found(1);
        int[] prices = {10, 20, 30, 13, 0, 40};
        for (int kind = 0; kind < 6; kind++) {
            x.kind(kind, 1, 1, 1, prices[kind]);
        }
        x.set(1, 4);
        Due.is("a QUARTER, or a REST: doubt(0)", x.doubt(0), 3);
        x.set(1, 8);
        Due.is("a HALF, or a BAR: doubt(0)", x.doubt(0), 20);
        x.set(1, 16);
        Due.is("a WHOLE, or a BAR: doubt(0)", x.doubt(0), 10);
        x.set(0, 35);
        Due.is("a WHOLE, or DIRT: doubt(0)", x.doubt(0), 5);
        x.set(0, 3);
        Due.is("DIRT, or a WHOLE: doubt(0)", x.doubt(0), 27);
        x.set(1, 10);
        Due.is("DIRT, or a BAR: doubt(0)", x.doubt(0), 37);
    }

    // "none, if there is no such": what was said is nothing else
    private static void promise15None() {
        ScoreReader x = Boards.found(2);
        x.correct(0, BAR);
        Due.is("said: doubt(0)", x.doubt(0), Due.NONE);
        Due.is("the other: doubt(1)", x.doubt(1), 0);
        x.correct(0, -1);
        Due.is("taken back: doubt(0)", x.doubt(0), 0);
        x.correct(1, DIRT);
        Due.is("said to be DIRT: doubt(1)", x.doubt(1), Due.NONE);
    }

    /** A HALF alone, or a QUARTER with a DOT alone, makes the bar full. */
    private static void promise15NoneThoughNothingWasSaid() {
        ScoreReader x = Boards.found(2);
        x.correct(0, QUARTER);
        x.set(1, 12);
        Due.is("a QUARTER said in 12: read(1)", x.read(1), HALF);
        Due.is("a QUARTER said in 12: best()", x.best(), 50);
        Due.is("a QUARTER said in 12: doubt(1)", x.doubt(1), Due.NONE);
        Due.is("a QUARTER said in 12: question()", x.question(), Due.NONE);
        x.set(1, 6);
        Due.is("a QUARTER said in 6: read(1)", x.read(1), DOT);
        Due.is("a QUARTER said in 6: doubt(1)", x.doubt(1), Due.NONE);
        x.set(1, 8);
        Due.is("a QUARTER said in 8: read(1)", x.read(1), QUARTER);
        Due.is("a QUARTER said in 8: doubt(1), a REST", x.doubt(1), 0);
        Due.is("a QUARTER said in 8: question()", x.question(), 1);
        x.set(1, 4);
        Due.is("a QUARTER said in 4: read(1)", x.read(1), BAR);
        Due.is("a QUARTER said in 4: doubt(1), DIRT", x.doubt(1), 10);
        x.kind(BAR, 1, 1, 1, 61);
        Due.is("a QUARTER said in 4: DIRT", x.read(1), DIRT);
        Due.is("a QUARTER said in 4: doubt(1), a BAR", x.doubt(1), 1);
        x.correct(0, -1);
        x.correct(1, DOT);
        x.set(1, 6);
        Due.is("a DOT said in 6: read(0)", x.read(0), QUARTER);
        Due.is("a DOT said in 6: doubt(0)", x.doubt(0), Due.NONE);
    }

    // Of those that cost alike BEST is the first; the others are no dearer.
    private static void promise15Nought() {
        ScoreReader x = Boards.found(1);
        Due.is("WHOLE and BAR alike: doubt(0)", x.doubt(0), 0);
        x.kind(BAR, 1, 1, 1, 51);
        Due.is("WHOLE and BAR by one: doubt(0)", x.doubt(0), 1);
        x.kind(WHOLE, 1, 1, 1, 51);
        Due.is("alike again: doubt(0)", x.doubt(0), 0);
        x.set(0, 0);
        x.kind(WHOLE, 1, 1, 1, 0);
        Due.is("WHOLE and DIRT for nothing: read(0)", x.read(0), WHOLE);
        Due.is("WHOLE and DIRT for nothing: doubt(0)", x.doubt(0), 0);
    }

    // "the least that a READING costs": of all SIGNS, the others may be something else too
    private static void promise15AnyOtherReading() {
        ScoreReader x = new ScoreReader();
        x.ink(0, 0, 1, 1, true);
        x.ink(5, 0, 2, 1, true);
        x.find();
        for (int kind = 0; kind < 6; kind++) {
            x.kind(kind, 0, 2000, 1, 100);
        }
        x.set(0, 1000);
        x.set(1, 12);
        x.kind(QUARTER, 1, 1, 1, 0);
        x.kind(HALF, 2, 2, 1, 0);
        Due.is("QUARTER and HALF: best()", x.best(), 0);
        Due.is("QUARTER and HALF: doubt(0), HALF and QUARTER", x.doubt(0), 2);
        Due.is("QUARTER and HALF: doubt(1)", x.doubt(1), 2);
        x.correct(1, HALF);
        Due.is("the HALF said: doubt(0), REST", x.doubt(0), 100);
        x.set(1, 8);
        Due.is("the HALF said, in 8: read(0)", x.read(0), BAR);
        Due.is("the HALF said, in 8: doubt(0), DIRT", x.doubt(0), 900);
    }

    // "the SIGN with the least DOUBT"
    private static void promise16TheLeast() {
        for (int least = 0; least < 3; least++) {
            ScoreReader x = new ScoreReader();
            for (int i = 0; i < 3; i++) {
                x.ink(5 * i, 0, i == least ? 1 : 2, 1, true);
            }
            x.find();
            x.set(1, 3);
            x.kind(BAR, 2, 2, 1, 50);
            x.set(0, 60);
            Due.is("least doubt at " + least + ": question()", x.question(), least);
            for (int k = 0; k < 3; k++) {
                Due.is("least doubt at " + least + ": doubt(" + k + ")", x.doubt(k), k == least ? 9 : 10);
            }
            x.correct(least, BAR);
            Due.is("the least is said: question()", x.question(), least == 0 ? 1 : 0);
        }
    }

    // "of several the first"
    private static void promise16OfSeveralTheFirst() {
        ScoreReader x = Boards.found(40);
        x.set(1, 3);
        for (int k = 0; k < 40; k++) {
            Due.is("question() of those from " + k, x.question(), k);
            x.correct(k, k % 2 == 0 ? BAR : DIRT);
        }
        Due.is("question() of none", x.question(), Due.NONE);
        x.correct(39, -1);
        Due.is("question() of the last", x.question(), 39);
        x.correct(7, -1);
        Due.is("question() of 7 and the last", x.question(), 7);
    }

    // "NONE: no SIGN has DOUBT"
    private static void promise16NoneHasDoubt() {
        ScoreReader x = new ScoreReader();
        x.find();
        Due.is("no SIGN: question()", x.question(), Due.NONE);
        ScoreReader one = Boards.said(WHOLE);
        Due.is("one said: question()", one.question(), Due.NONE);
        one.correct(0, -1);
        Due.is("one taken back: question()", one.question(), 0);
    }

    private static void promise16Not() {
        ScoreReader x = Boards.dotted(1);
        Due.is("not found: question()", x.question(), Due.NOT);
        x.find();
        Due.is("found: question()", x.question(), 0);
        x.correct(0, REST);
        Due.is("no READING: question()", x.question(), Due.NOT);
        x.set(1, 4);
        Due.is("a READING again: question()", x.question(), Due.NONE);
        x.run(11);
        Due.is("RUN changed: question()", x.question(), Due.NOT);
    }

    /** 40 SIGNS of 2254 as any KIND: each but the last is said. */
    private static void promise13Promise15FortySigns() {
        ScoreReader x = Boards.found(40);
        for (int kind = 0; kind < 6; kind++) {
            x.kind(kind, 2000, 2000, 32, 100);
        }
        x.set(0, 1000);
        for (int k = 0; k < 40; k++) {
            Due.is("40 DIRT: read(" + k + ")", x.read(k), DIRT);
            Due.is("40 DIRT: doubt(" + k + ")", x.doubt(k), 1254);
        }
        Due.is("40 DIRT: question()", x.question(), 0);
        x.set(1, 48);
        for (int k = 0; k < 39; k++) {
            x.correct(k, k % 13 == 12 ? BAR : QUARTER);
        }
        Due.is("twelve by twelve: best()", x.best(), 1000);
        Due.is("twelve by twelve: read(39)", x.read(39), DIRT);
        Due.is("twelve by twelve: doubt(39), a BAR", x.doubt(39), 1254);
        x.correct(38, QUARTER);
        Due.is("thirteen: best()", x.best(), Due.NOT);
        x.correct(38, -1);
        Due.is("twelve, DIRT, DIRT: best()", x.best(), 2000);
        Due.is("twelve, DIRT, DIRT: doubt(38)", x.doubt(38), 1254);
        x.correct(37, -1);
        x.set(0, 600);
        Due.is("eleven and three: best()", x.best(), 2254 + 1200);
        Due.is("eleven and three: read(37)", x.read(37), QUARTER);
        Due.is("eleven and three: doubt(37), REST", x.doubt(37), 0);
    }
}
