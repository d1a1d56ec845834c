import java.util.Arrays;

/** Promise 20, sentence by sentence where the document names an edge. */
public final class PlayedEdgesTest {
    private static final int WHOLE = 2, DOT = 4, BAR = 5;
    private static final int BEGIN = 1, END = 2, FIRST = 3, BACK = 4;
    private static final int[] NO_INTS = {-1, Due.LEAST, Due.LEAST + 1, Due.MOST, Due.MOST - 1};

    public static void main(String[] args) {
        promise20Bounds();
        promise20Not();
        promise20NoMeasure();
        promise20FromMeasureNoughtOn();
        promise20End();
        promise20LatestBegin();
        promise20ElseNought();
        promise20FirstEnding();
        promise20FirstEndingAtTheEdges();
        promise20Back();
        promise20EachOnce();
        promise20AllTogether();
        promise20TwoHundred();
        promise20LongWays();
        promise20IsToldAnew();
        promise20FortySigns();
        Due.end("PlayedEdgesTest");
    }

    // "BAD: i not 0 .. 199", ahead of NOT
    private static void promise20Bounds() {
        ScoreReader fresh = new ScoreReader();
        bounds("new", fresh, Due.NOT, Due.NOT);
        fresh.find();
        bounds("no SIGN", fresh, Due.NONE, Due.NONE);
        bounds("one MEASURE", measures(0), 0, Due.NONE);
        ScoreReader x = measures(0);
        x.correct(0, DOT);
        bounds("no READING", x, Due.NOT, Due.NOT);
        ScoreReader full = Boards.dotted(41);
        full.find();
        bounds("FULL", full, Due.NOT, Due.NOT);
    }

    private static void bounds(String state, ScoreReader x, int first, int last) {
        Due.is(state + ": played(0)", x.played(0), first);
        Due.is(state + ": played(199)", x.played(199), last);
        Due.is(state + ": played(200)", x.played(200), Due.BAD);
        for (int i : NO_INTS) {
            Due.is(state + ": played(" + i + ")", x.played(i), Due.BAD);
        }
    }

    private static void promise20Not() {
        ScoreReader x = Boards.dotted(1);
        Due.is("not found: played(0)", x.played(0), Due.NOT);
        x.find();
        Due.is("found: played(0)", x.played(0), 0);
        x.correct(0, DOT);
        Due.is("no READING: played(0)", x.played(0), Due.NOT);
        x.correct(0, WHOLE);
        x.ink(0, 0, 1, 1, true);
        Due.is("changed: played(0)", x.played(0), Due.NOT);
    }

    private static void promise20NoMeasure() {
        ScoreReader x = Boards.said(BAR, BAR);
        for (int m = 0; m < 40; m++) {
            x.sway(m, m % 5);
        }
        for (int i = 0; i < 200; i++) {
            Due.is("no MEASURE: played(" + i + ")", x.played(i), Due.NONE);
        }
    }

    /** As many MEASURES as SIGNS OF WAY, 20 at most. */
    private static ScoreReader measures(int... ways) {
        int[] kinds = new int[ways.length * 2];
        for (int m = 0; m < ways.length; m++) {
            kinds[2 * m] = WHOLE;
            kinds[2 * m + 1] = BAR;
        }
        ScoreReader x = Boards.found(kinds.length);
        Boards.say(x, kinds);
        for (int m = 0; m < ways.length; m++) {
            x.sway(m, ways[m]);
        }
        Due.is("measures of " + ways.length, x.measures(), ways.length);
        return x;
    }

    private static void plays(int[] ways, int... want) {
        ScoreReader x = measures(ways);
        String call = Arrays.toString(ways) + ": played(";
        for (int i = 0; i < want.length; i++) {
            Due.is(call + i + ")", x.played(i), want[i]);
        }
        for (int i = want.length; i < want.length + 5; i++) {
            Due.is(call + i + ")", x.played(i), Due.NONE);
        }
        Due.is(call + "199)", x.played(199), Due.NONE);
    }

    // "from MEASURE 0 on"; "It ends behind the last MEASURE"
    private static void promise20FromMeasureNoughtOn() {
        plays(new int[] {0}, 0);
        plays(new int[] {BEGIN}, 0);
        plays(new int[] {0, 0, 0, 0}, 0, 1, 2, 3);
        plays(new int[] {BEGIN, BEGIN, 0, BEGIN}, 0, 1, 2, 3);
    }

    // "behind one with END, if it was not gone back from yet: to the latest BEGIN"
    private static void promise20End() {
        plays(new int[] {END}, 0, 0);
        plays(new int[] {BEGIN, END}, 0, 1, 0, 1);
        plays(new int[] {BEGIN, 0, END}, 0, 1, 2, 0, 1, 2);
        plays(new int[] {0, BEGIN, END, 0}, 0, 1, 2, 1, 2, 3);
        plays(new int[] {0, 0, END, 0, 0}, 0, 1, 2, 0, 1, 2, 3, 4);
    }

    // "to the latest BEGIN at it or ahead"
    private static void promise20LatestBegin() {
        plays(new int[] {BEGIN, BEGIN, BEGIN, END}, 0, 1, 2, 3, 2, 3);
        plays(new int[] {BEGIN, BEGIN, 0, END}, 0, 1, 2, 3, 1, 2, 3);
        plays(new int[] {0, BEGIN, END, END}, 0, 1, 2, 1, 2, 3, 1, 2, 3);
        plays(new int[] {0, BEGIN, END, BEGIN, END}, 0, 1, 2, 1, 2, 3, 4, 3, 4);
        plays(new int[] {0, BEGIN, 0, FIRST, 0}, 0, 1, 2, 3, 1, 2, 4);
    }

    // "(else 0)": a BEGIN behind it is none.
    private static void promise20ElseNought() {
        plays(new int[] {0, END, BEGIN}, 0, 1, 0, 1, 2);
        plays(new int[] {END, BEGIN, END}, 0, 0, 1, 2, 1, 2);
        plays(new int[] {0, FIRST, BEGIN, 0}, 0, 1, 0, 2, 3);
        plays(new int[] {0, END, 0, END}, 0, 1, 0, 1, 2, 3, 0, 1, 2, 3);
    }

    // "behind one with FIRST likewise; one with FIRST that was gone back from already is left out"
    private static void promise20FirstEnding() {
        plays(new int[] {0, FIRST, 0}, 0, 1, 0, 2);
        plays(new int[] {BEGIN, 0, FIRST, 0, 0}, 0, 1, 2, 0, 1, 3, 4);
        plays(new int[] {0, FIRST, FIRST, 0}, 0, 1, 0, 2, 0, 3);
        plays(new int[] {0, FIRST, FIRST, FIRST}, 0, 1, 0, 2, 0, 3, 0);
        plays(new int[] {BEGIN, FIRST, BEGIN, FIRST, 0}, 0, 1, 0, 2, 3, 2, 4);
        plays(new int[] {0, FIRST, END, 0}, 0, 1, 0, 2, 0, 2, 3);
    }

    private static void promise20FirstEndingAtTheEdges() {
        plays(new int[] {FIRST}, 0);
        plays(new int[] {FIRST, 0}, 0, 1);
        plays(new int[] {FIRST, FIRST}, 0, 1);
        plays(new int[] {FIRST, FIRST, FIRST, 0}, 0, 1, 2, 3);
        plays(new int[] {0, FIRST}, 0, 1, 0);
        plays(new int[] {FIRST, END}, 0, 1, 1);
        plays(new int[] {FIRST, BACK}, 0, 1, 1);
    }

    // "behind one with BACK, if it was not gone back from yet: to 0", also past a BEGIN
    private static void promise20Back() {
        plays(new int[] {BACK}, 0, 0);
        plays(new int[] {0, BACK}, 0, 1, 0, 1);
        plays(new int[] {0, BACK, 0}, 0, 1, 0, 1, 2);
        plays(new int[] {0, BEGIN, BACK, 0}, 0, 1, 2, 0, 1, 2, 3);
        plays(new int[] {BACK, BACK, BACK}, 0, 0, 1, 0, 1, 2, 0, 1, 2);
    }

    // "if it was not gone back from yet": once in all, also when it comes by another way
    private static void promise20EachOnce() {
        plays(new int[] {0, END, BACK}, 0, 1, 0, 1, 2, 0, 1, 2);
        plays(new int[] {0, BEGIN, END, BACK, 0}, 0, 1, 2, 1, 2, 3, 0, 1, 2, 3, 4);
        plays(new int[] {0, FIRST, BACK, 0}, 0, 1, 0, 2, 0, 2, 3);
        plays(new int[] {0, BACK, END}, 0, 1, 0, 1, 2, 0, 1, 2);
        plays(new int[] {END, END, BACK}, 0, 0, 1, 0, 1, 2, 0, 1, 2);
    }

    private static void promise20AllTogether() {
        plays(new int[] {0, BEGIN, FIRST, 0, END, BACK, 0},
                0, 1, 2, 1, 3, 4, 1, 3, 4, 5, 0, 1, 3, 4, 5, 6);
        plays(new int[] {END, BEGIN, BACK, FIRST, 0},
                0, 0, 1, 2, 0, 1, 2, 3, 1, 2, 4);
    }

    /** Twenty MEASURES; END at all but those; each END at m has m + 1 MEASURES played once more. */
    private static ScoreReader ends(int... but) {
        int[] ways = new int[20];
        Arrays.fill(ways, END);
        for (int m : but) {
            ways[m] = 0;
        }
        return measures(ways);
    }

    // "200 MEASURES at most are PLAYED": 199, 200, 201 and 230 of them
    private static void promise20TwoHundred() {
        ScoreReader less = ends(19, 10);
        Due.is("199: played(198)", less.played(198), 19);
        Due.is("199: played(199)", less.played(199), Due.NONE);
        ScoreReader full = ends(19, 9);
        Due.is("200: played(198)", full.played(198), 18);
        Due.is("200: played(199)", full.played(199), 19);
        Due.is("200: played(200)", full.played(200), Due.BAD);
        ScoreReader more = ends(19, 8);
        Due.is("201: played(198)", more.played(198), 17);
        Due.is("201: played(199)", more.played(199), 18);
        Due.is("201: played(200)", more.played(200), Due.BAD);
    }

    private static void promise20LongWays() {
        ScoreReader x = ends();
        int i = 0;
        for (int end = 0; end < 20; end++) {
            for (int m = 0; m <= end && i < 200; m++) {
                Due.is("all ENDS: played(" + i + ")", x.played(i), m);
                i++;
            }
        }
        Due.is("all ENDS: played(200)", x.played(200), Due.BAD);
        int[] firsts = new int[20];
        Arrays.fill(firsts, FIRST);
        firsts[0] = 0;
        int[] want = new int[39];
        for (int m = 1; m < 20; m++) {
            want[2 * m - 1] = m;
        }
        plays(firsts, want);
    }

    // Each call tells the same way anew; what is told of a MEASURE counts at once.
    private static void promise20IsToldAnew() {
        ScoreReader x = measures(0, END, 0);
        int[] want = {0, 1, 0, 1, 2, Due.NONE};
        for (int round = 0; round < 2; round++) {
            for (int i = 5; i >= 0; i--) {
                Due.is("round " + round + ": played(" + i + ")", x.played(i), want[i]);
            }
        }
        x.sway(1, 0);
        Due.is("END taken away: played(2)", x.played(2), 2);
        Due.is("END taken away: played(3)", x.played(3), Due.NONE);
        x.sway(2, BACK);
        Due.is("BACK: played(3)", x.played(3), 0);
        x.sway(2, END);
        x.sway(1, BEGIN);
        Due.is("BEGIN and END: played(3)", x.played(3), 1);
        x.sway(1, 5);
        Due.is("refused: played(3)", x.played(3), 1);
    }

    private static void promise20FortySigns() {
        int[] ways = new int[20];
        ways[19] = BACK;
        ways[10] = BEGIN;
        ways[15] = FIRST;
        ScoreReader x = measures(ways);
        int i = 0;
        int[][] parts = {{0, 15}, {10, 14}, {16, 19}, {0, 14}, {16, 19}};
        for (int[] part : parts) {
            for (int m = part[0]; m <= part[1]; m++) {
                Due.is("forty SIGNS: played(" + i + ")", x.played(i), m);
                i++;
            }
        }
        Due.is("forty SIGNS: its end", x.played(i), Due.NONE);
    }
}
