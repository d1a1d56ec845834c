import java.util.Random;

/**
 * "An object is used for at most 512 calls": runs of as many calls with any arguments in any order.
 * No call throws, every call ends, and each answer is one that the call can have.
 */
public final class LongRunsTest {
    private static final int CALLS = 512, RUNS = 1500;
    private static final long MOST_MILLIS = 120000;
    private static final int[] EDGES = {Due.LEAST, Due.LEAST + 1, -1000000, -61, -60, -33, -32, -3, -2, -1,
        0, 1, 2, 3, 4, 5, 6, 7, 8, 9, 10, 11, 15, 16, 17, 30, 31, 32, 33, 38, 39, 40, 41, 47, 48, 49, 58,
        59, 60, 61, 63, 64, 99, 100, 101, 198, 199, 200, 201, 999, 1000, 1001, 1919, 1920, 1999, 2000,
        2001, 1000000, Due.MOST - 59, Due.MOST - 31, Due.MOST - 1, Due.MOST};

    private final Random random;
    private final String run;
    private final ScoreReader x = new ScoreReader();

    private LongRunsTest(int run) {
        random = new Random(run);
        this.run = "run " + run + ": ";
    }

    public static void main(String[] args) throws InterruptedException {
        Thread runs = new Thread(LongRunsTest::all);
        runs.setDaemon(true);
        runs.start();
        runs.join(MOST_MILLIS);
        Due.is("the runs have come to an end", runs.isAlive() ? 0 : 1, 1);
        Due.end("LongRunsTest");
    }

    private static void all() {
        for (int run = 0; run < RUNS; run++) {
            LongRunsTest test = new LongRunsTest(run);
            for (int call = 0; call < CALLS; call++) {
                test.step(run % 3, call);
            }
        }
        theLastCallOfAll();
    }

    /** Runs of three sorts: any calls at all, mostly good ones, and many that draw. */
    private void step(int sort, int call) {
        try {
            if (sort == 0) {
                call(random.nextInt(21), true);
            } else if (sort == 1) {
                call(random.nextInt(21), random.nextInt(8) == 0);
            } else {
                call(call % 64 < 30 ? random.nextInt(3) : random.nextInt(21), random.nextInt(30) == 0);
            }
        } catch (RuntimeException | StackOverflowError thrown) {
            Due.is(run + "call " + call + " threw " + thrown, 1, 0);
        }
    }

    private int any(boolean wild, int least, int greatest) {
        if (!wild) {
            return least + random.nextInt(greatest - least + 1);
        }
        return random.nextInt(4) == 0 ? random.nextInt() : EDGES[random.nextInt(EDGES.length)];
    }

    private void among(String call, int answer, int least, int greatest, int... refusals) {
        boolean fits = answer >= least && answer <= greatest;
        for (int refusal : refusals) {
            fits |= answer == refusal;
        }
        Due.is(run + call + " answered " + answer + ", which it can: ", fits ? 1 : 0, 1);
    }

    private void call(int which, boolean wild) {
        if (which < 6) {
            callOnBoard(which, wild);
        } else if (which < 13) {
            callOnSigns(which, wild);
        } else {
            callOnReading(which, wild);
        }
    }

    private void callOnBoard(int which, boolean wild) {
        switch (which) {
            case 0: among("row", x.row(any(wild, 0, 31), dots(wild)), 0, 60, Due.BAD); break;
            case 1: among("ink", ink(wild), 0, 1920, Due.BAD); break;
            case 2: among("find", x.find(), 0, 40, Due.FULL); break;
            case 3: among("run", x.run(any(wild, 10, 60)), 10, 60, Due.BAD); break;
            case 4: among("dot", x.dot(any(wild, 0, 59), any(wild, 0, 31)), 0, 1, Due.BAD); break;
            default: among("lines", x.lines(), 0, 16); break;
        }
    }

    private long dots(boolean wild) {
        int sort = random.nextInt(5);
        if (wild && sort == 0) {
            return random.nextLong() >> random.nextInt(64);
        }
        if (wild && sort == 1) {
            return Long.MIN_VALUE >> random.nextInt(64);
        }
        return sort < 3 ? Boards.BLACK >>> random.nextInt(21) : 1L << random.nextInt(60);
    }

    private int ink(boolean wild) {
        if (wild) {
            return x.ink(any(true, 0, 0), any(true, 0, 0), any(true, 0, 0), any(true, 0, 0),
                    random.nextBoolean());
        }
        int left = random.nextInt(60);
        int top = random.nextInt(32);
        boolean large = random.nextInt(10) == 0;
        int w = 1 + random.nextInt(large ? 60 - left : Math.min(3, 60 - left));
        int h = 1 + random.nextInt(large ? 32 - top : Math.min(6, 32 - top));
        return x.ink(left, top, w, h, !large && random.nextInt(4) != 0);
    }

    private void callOnSigns(int which, boolean wild) {
        switch (which) {
            case 6: among("staff", x.staff(any(wild, 0, 4), any(wild, 0, 1)), 0, 31, Due.BAD, Due.NOT); break;
            case 7: sign(any(wild, 0, 8), any(wild, 0, 6)); break;
            case 8: kind(wild); break;
            case 9: among("set", x.set(any(wild, 0, 1), any(wild, 2, 48)), 0, 1000, Due.BAD); break;
            case 10: case 11: among("correct", x.correct(any(wild, 0, 8), any(wild, -1, 6)), -1, 6,
                    Due.BAD, Due.NOT); break;
            default: among("count", x.count(any(wild, 0, 4)), -1, 1920, Due.BAD); break;
        }
    }

    private void sign(int k, int what) {
        int greatest = what == 0 ? 1920 : what == 6 ? 6 : 59;
        int least = what == 5 ? -30 : what == 6 ? -1 : 0;
        among("sign(.., " + what + ")", x.sign(k, what), least, greatest, Due.LEAST, what == 5 ? -1001 : 0);
    }

    private void kind(boolean wild) {
        int low = any(wild, 0, 10);
        among("kind", x.kind(any(wild, 0, 5), low, any(wild, low, low + 20), any(wild, 1, 9),
                any(wild, 0, 40)), 1, 1, Due.BAD);
    }

    private void callOnReading(int which, boolean wild) {
        switch (which) {
            case 13: among("best", x.best(), 0, 40000, Due.NOT); break;
            case 14: among("read", x.read(any(wild, 0, 8)), 0, 6, Due.BAD, Due.NOT); break;
            case 15: among("doubt", x.doubt(any(wild, 0, 8)), -1, 100000, Due.BAD, Due.NOT); break;
            case 16: among("question", x.question(), -1, 39, Due.NOT); break;
            case 17: among("measures", x.measures(), 0, 20, Due.NOT); break;
            case 18: note(any(wild, 0, 3), any(wild, 0, 3), any(wild, 0, 2)); break;
            case 19: among("sway", x.sway(any(wild, 0, 5), any(wild, 0, 4)), 0, 4, Due.BAD); break;
            default: among("played", x.played(any(wild, 0, 20)), -1, 19, Due.BAD, Due.NOT); break;
        }
    }

    private void note(int measure, int i, int what) {
        int answer = x.note(measure, i, what);
        if (what == 2) {
            boolean time = answer == 4 || answer == 6 || answer == 8 || answer == 12 || answer == 16;
            Due.is(run + "note(.., 2) answered " + answer, time || answer == Due.LEAST ? 1 : 0, 1);
        } else {
            among("note(.., " + what + ")", answer, what == 0 ? 0 : -30, 39, Due.LEAST, -1001);
        }
    }

    /** 512 dear calls on one object, the last of them as good as the first. */
    private static void theLastCallOfAll() {
        ScoreReader x = Boards.found(40);
        for (int call = 41; call < 511; call += 2) {
            Due.is("correct, call " + (call + 1), x.correct(call % 40, -1), Due.NONE);
            Due.is("question, call " + (call + 2), x.question(), 0);
        }
        Due.is("doubt, the last call", x.doubt(39), 0);
    }
}
