import java.util.ArrayList;
import java.util.Arrays;
import java.util.List;
import java.util.Random;

/**
 * Promises 13 to 18: of six SIGNS at most every READING is tried, one by one, and what the document
 * says of BEST, DOUBT, THE QUESTION and MEASURES is looked up among them.
 */
public final class TrialTest {
    private static final int HALF = 1, WHOLE = 2, DOT = 4, BAR = 5, DIRT = 6, READABLE = 7;
    private static final int[] TIMES = {4, 8, 16, 4};
    private static final int RUNS = 300, CHANGES = 5, MOST_SIGNS = 6;

    private final Random random;
    private final String run;
    private final ScoreReader x = new ScoreReader();
    private final int size;
    private final int[] areas;
    private final int[] heights;
    private final int[] said;
    private final int[][] kinds = new int[6][];
    private int dirt = 60;
    private int time = 16;

    private int best;
    private int[] bestReading;
    private int[][] leastWith;

    private TrialTest(int run) {
        this.run = "run " + run + ": ";
        random = new Random(run);
        size = random.nextInt(MOST_SIGNS + 1);
        areas = new int[size];
        heights = new int[size];
        said = new int[size];
        Arrays.fill(said, Due.NONE);
        for (int kind = 0; kind < kinds.length; kind++) {
            kinds[kind] = new int[] {1, 2000, 1, 50};
        }
    }

    public static void main(String[] args) {
        for (int run = 0; run < RUNS; run++) {
            TrialTest test = new TrialTest(run);
            test.draw();
            for (int change = 0; change < CHANGES; change++) {
                test.change();
                test.tryAll();
                test.compare();
            }
        }
        Due.end("TrialTest");
    }

    private void draw() {
        int left = 0;
        for (int k = 0; k < size; k++) {
            int w = 1 + random.nextInt(4);
            heights[k] = 1 + random.nextInt(10);
            areas[k] = w * heights[k];
            x.ink(left, random.nextInt(33 - heights[k]), w, heights[k], true);
            left += w + 1 + random.nextInt(3);
        }
        Due.is(run + "find()", x.find(), size);
    }

    private void change() {
        for (int kind = 0; kind < kinds.length; kind++) {
            if (random.nextBoolean()) {
                int low = random.nextInt(20);
                int[] a = {low, low + random.nextInt(20), 1 + random.nextInt(8), random.nextInt(6)};
                kinds[kind] = a;
                x.kind(kind, a[0], a[1], a[2], a[3]);
            }
        }
        if (random.nextBoolean()) {
            dirt = random.nextInt(40);
            x.set(0, dirt);
        }
        if (random.nextBoolean()) {
            time = random.nextInt(6) == 0 ? 2 + random.nextInt(47) : 2 + 2 * random.nextInt(12);
            x.set(1, time);
        }
        if (size > 0 && random.nextInt(3) == 0) {
            int k = random.nextInt(size);
            said[k] = random.nextInt(READABLE + 1) - 1;
            x.correct(k, said[k]);
        }
    }

    private int cost(int k, int what) {
        if (said[k] == what) {
            return 0;
        }
        if (what == DIRT) {
            return dirt;
        }
        int[] a = kinds[what];
        int cost = a[3] + 5 * Math.max(0, a[2] - heights[k]);
        return cost + Math.max(0, a[0] - areas[k]) + Math.max(0, areas[k] - a[1]);
    }

    /** Readings come in the order in which the first of several is to be found. */
    private void tryAll() {
        best = Due.NONE;
        bestReading = null;
        leastWith = new int[size][READABLE];
        for (int[] least : leastWith) {
            Arrays.fill(least, Due.NONE);
        }
        int[] reading = new int[size];
        do {
            if (mayBe(reading) && isReading(reading)) {
                take(reading);
            }
        } while (isMoved(reading));
    }

    private static boolean isMoved(int[] reading) {
        int k = reading.length - 1;
        while (k >= 0 && reading[k] == DIRT) {
            reading[k] = 0;
            k--;
        }
        if (k >= 0) {
            reading[k]++;
        }
        return k >= 0;
    }

    private boolean mayBe(int[] reading) {
        for (int k = 0; k < size; k++) {
            if (said[k] != Due.NONE && said[k] != reading[k]) {
                return false;
            }
        }
        return true;
    }

    private boolean isReading(int[] reading) {
        int ahead = BAR;
        int sum = 0;
        for (int what : reading) {
            if (what == DOT && ahead > HALF) {
                return false;
            }
            if (what == BAR && sum != 0 && sum != time) {
                return false;
            }
            if (what != DIRT) {
                sum = what == BAR ? 0 : sum + (what == DOT ? TIMES[ahead] / 2 : TIMES[what]);
                ahead = what;
            }
        }
        return sum == 0 || sum == time;
    }

    private void take(int[] reading) {
        int sum = 0;
        for (int k = 0; k < size; k++) {
            sum += cost(k, reading[k]);
        }
        if (bestReading == null || sum < best) {
            best = sum;
            bestReading = reading.clone();
        }
        for (int k = 0; k < size; k++) {
            int least = leastWith[k][reading[k]];
            leastWith[k][reading[k]] = least == Due.NONE ? sum : Math.min(least, sum);
        }
    }

    private void compare() {
        boolean stands = bestReading != null;
        Due.is(run + "best()", x.best(), stands ? best : Due.NOT);
        int question = Due.NONE;
        for (int k = 0; k < size; k++) {
            Due.is(run + "read(" + k + ")", x.read(k), stands ? bestReading[k] : Due.NOT);
            Due.is(run + "doubt(" + k + ")", x.doubt(k), stands ? doubt(k) : Due.NOT);
            if (stands && doubt(k) != Due.NONE && (question == Due.NONE || doubt(k) < doubt(question))) {
                question = k;
            }
        }
        Due.is(run + "question()", x.question(), stands ? question : Due.NOT);
        List<List<int[]>> measures = measures();
        Due.is(run + "measures()", x.measures(), stands ? measures.size() : Due.NOT);
        for (int m = 0; m <= measures.size(); m++) {
            compareNotes(m, m < measures.size() ? measures.get(m) : List.of());
        }
    }

    private int doubt(int k) {
        int doubt = Due.NONE;
        for (int what = 0; what < READABLE; what++) {
            int least = leastWith[k][what];
            if (what != bestReading[k] && least != Due.NONE && (doubt == Due.NONE || least - best < doubt)) {
                doubt = least - best;
            }
        }
        return doubt;
    }

    /** Of each MEASURE its NOTES: the SIGN and the TIME. */
    private List<List<int[]>> measures() {
        List<List<int[]>> measures = new ArrayList<>();
        boolean open = false;
        for (int k = 0; bestReading != null && k < size; k++) {
            int what = bestReading[k];
            if (what != BAR && what != DIRT && !open) {
                measures.add(new ArrayList<>());
            }
            open = what != BAR && (open || what != DIRT);
            List<int[]> last = open ? measures.get(measures.size() - 1) : null;
            if (what <= WHOLE) {
                last.add(new int[] {k, TIMES[what]});
            } else if (what == DOT) {
                int[] dotted = last.get(last.size() - 1);
                dotted[1] += dotted[1] / 2;
            }
        }
        return measures;
    }

    private void compareNotes(int measure, List<int[]> notes) {
        for (int i = 0; i <= notes.size(); i++) {
            String call = run + "note(" + measure + ", " + i + ", ";
            int[] note = i < notes.size() ? notes.get(i) : null;
            Due.is(call + "0)", x.note(measure, i, 0), note == null ? Due.LEAST : note[0]);
            Due.is(call + "1)", x.note(measure, i, 1), note == null ? Due.LEAST : -1001);
            Due.is(call + "2)", x.note(measure, i, 2), note == null ? Due.LEAST : note[1]);
        }
    }
}
