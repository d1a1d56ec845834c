import java.util.ArrayDeque;
import java.util.ArrayList;
import java.util.Arrays;
import java.util.Comparator;
import java.util.HashMap;
import java.util.List;
import java.util.Map;

/**
 * The document once more, as slowly and plainly as can be: other ways to the same answers, to be
 * compared with ScoreReader on many runs.
 */
final class PlainReader {
    private static final int NONE = -1, BAD = -2, NOT = -3, FULL = -4, LEAST = Integer.MIN_VALUE;
    private static final int[] TIMES = {4, 8, 16, 4, 0, 0, 0};

    /** A SIGN: its dots, each as y * 60 + x, row by row. */
    private static final class Blot {
        final List<Integer> dots = new ArrayList<>();

        int extreme(boolean least, boolean ofX) {
            return dots.stream().map(d -> ofX ? d % 60 : d / 60)
                    .reduce(least ? Math::min : Math::max).orElseThrow();
        }
    }

    private final boolean[][] board = new boolean[32][60];
    private int run = 40;
    private List<Blot> blots = null;
    private int blotsBefore = -1;
    private final int[] said = new int[40];
    private final int[][] kinds = new int[6][];
    private int dirt = 60;
    private int time = 16;
    private final int[] ways = new int[40];
    // Worked once between two changes; null: not yet.
    private int[][] costs = null;
    private int[][] bestOnce = null;

    PlainReader() {
        Arrays.fill(said, NONE);
        for (int k = 0; k < 6; k++) {
            kinds[k] = new int[] {1, 2000, 1, 50};
        }
    }

    int row(int y, long dots) {
        if (y < 0 || y > 31 || dots < 0 || dots >= 1L << 60) {
            return BAD;
        }
        int black = 0;
        for (int x = 0; x < 60; x++) {
            board[y][x] = (dots & 1L << x) != 0;
            black += board[y][x] ? 1 : 0;
        }
        forget();
        blots = null;
        return black;
    }

    int ink(int x, int y, int w, int h, boolean black) {
        if (w < 1 || w > 60 || h < 1 || h > 32 || x < 0 || y < 0
                || (long) x + w > 60 || (long) y + h > 32) {
            return BAD;
        }
        int changed = 0;
        for (int j = y; j < y + h; j++) {
            for (int i = x; i < x + w; i++) {
                changed += board[j][i] != black ? 1 : 0;
                board[j][i] = black;
            }
        }
        forget();
        blots = null;
        return changed;
    }

    int run(int v) {
        if (v < 10 || v > 60) {
            return BAD;
        }
        int was = run;
        run = v;
        forget();
        blots = null;
        return was;
    }

    int dot(int x, int y) {
        return x < 0 || x > 59 || y < 0 || y > 31 ? BAD : board[y][x] ? 1 : 0;
    }

    private boolean isRule(int y) {
        for (int x = 0; x + run <= 60; x++) {
            boolean all = true;
            for (int i = x; i < x + run; i++) {
                all &= board[y][i];
            }
            if (all) {
                return true;
            }
        }
        return false;
    }

    private List<int[]> lineList() {
        List<int[]> list = new ArrayList<>();
        for (int y = 0; y < 32; y++) {
            if (!isRule(y)) {
                continue;
            }
            if (y > 0 && isRule(y - 1)) {
                list.get(list.size() - 1)[1] = y;
            } else {
                list.add(new int[] {y, y});
            }
        }
        return list;
    }

    private List<int[]> staffLines() {
        List<int[]> all = lineList();
        for (int i = 0; i + 5 <= all.size(); i++) {
            List<int[]> five = all.subList(i, i + 5);
            int[] gaps = new int[4];
            for (int g = 0; g < 4; g++) {
                gaps[g] = five.get(g + 1)[0] - five.get(g)[0];
            }
            Arrays.sort(gaps);
            if (gaps[3] <= gaps[0] + 1) {
                return five;
            }
        }
        return null;
    }

    private int gap() {
        List<int[]> five = staffLines();
        return five == null ? NONE : five.get(1)[0] - five.get(0)[0];
    }

    int lines() {
        return lineList().size();
    }

    int staff(int i, int way) {
        if (i < 0 || i > 4 || way < 0 || way > 1) {
            return BAD;
        }
        List<int[]> five = staffLines();
        return five == null ? NOT : five.get(i)[way];
    }

    int find() {
        boolean[][] left = new boolean[32][];
        for (int y = 0; y < 32; y++) {
            left[y] = board[y].clone();
        }
        List<int[]> five = staffLines();
        for (int[] line : five == null ? List.<int[]>of() : five) {
            for (int x = 0; x < 60; x++) {
                boolean above = line[0] > 0 && board[line[0] - 1][x];
                boolean below = line[1] < 31 && board[line[1] + 1][x];
                for (int y = line[0]; y <= line[1] && !above && !below; y++) {
                    left[y][x] = false;
                }
            }
        }
        List<Blot> all = blotsOf(left);
        if (all.size() > 40) {
            forget();
        blots = null;
            return FULL;
        }
        forget();
        blots = all;
        if (all.size() != blotsBefore) {
            Arrays.fill(said, NONE);
        }
        blotsBefore = all.size();
        return all.size();
    }

    private static List<Blot> blotsOf(boolean[][] left) {
        List<Blot> all = new ArrayList<>();
        for (int d = 0; d < 1920; d++) {
            if (left[d / 60][d % 60]) {
                all.add(blotFrom(left, d));
            }
        }
        all.sort(Comparator.comparing((Blot b) -> b.extreme(true, true))
                .thenComparing(b -> b.extreme(true, false)).thenComparing(b -> b.dots.get(0)));
        return all;
    }

    private static Blot blotFrom(boolean[][] left, int first) {
        Blot blot = new Blot();
        ArrayDeque<Integer> stack = new ArrayDeque<>();
        stack.push(first);
        while (!stack.isEmpty()) {
            int d = stack.pop();
            int x = d % 60;
            int y = d / 60;
            if (!left[y][x]) {
                continue;
            }
            left[y][x] = false;
            blot.dots.add(d);
            for (int n = 0; n < 9; n++) {
                int nx = x + n % 3 - 1;
                int ny = y + n / 3 - 1;
                if (nx >= 0 && nx < 60 && ny >= 0 && ny < 32) {
                    stack.push(ny * 60 + nx);
                }
            }
        }
        blot.dots.sort(null);
        return blot;
    }

    int sign(int k, int what) {
        if (what < 0 || what > 6 || blots == null || k < 0 || k >= blots.size()) {
            return LEAST;
        }
        Blot b = blots.get(k);
        switch (what) {
            case 0: return b.dots.size();
            case 1: return b.extreme(true, true);
            case 2: return b.extreme(true, false);
            case 3: return b.extreme(false, true);
            case 4: return b.extreme(false, false);
            case 5: return step(b);
            default: return said[k];
        }
    }

    private int step(Blot b) {
        if (gap() == NONE) {
            return -1001;
        }
        int middle = (b.extreme(true, false) + b.extreme(false, false)) / 2;
        return (int) Math.floor((staff(4, 1) - middle) / (gap() / 2.0));
    }

    int kind(int k, int low, int high, int least, int price) {
        if (k < 0 || k > 5 || low < 0 || low > high || high > 2000 || least < 1 || least > 32
                || price < 0 || price > 100) {
            return BAD;
        }
        forget();
        kinds[k] = new int[] {low, high, least, price};
        return 1;
    }

    int set(int way, int v) {
        if (way < 0 || way > 1 || v < (way == 0 ? 0 : 2) || v > (way == 0 ? 1000 : 48)) {
            return BAD;
        }
        forget();
        int was = way == 0 ? dirt : time;
        if (way == 0) {
            dirt = v;
        } else {
            time = v;
        }
        return was;
    }

    int correct(int k, int what) {
        if (what < -1 || what > 6 || k < 0 || k > 39) {
            return BAD;
        }
        if (blots == null) {
            return NOT;
        }
        if (k >= blots.size()) {
            return BAD;
        }
        forget();
        int was = said[k];
        said[k] = what;
        return was;
    }

    private void forget() {
        costs = null;
        bestOnce = null;
    }

    private int cost(int k, int what) {
        if (costs == null) {
            costs = new int[blots.size()][7];
            for (int i = 0; i < costs.length * 7; i++) {
                costs[i / 7][i % 7] = costAnew(i / 7, i % 7);
            }
        }
        return costs[k][what];
    }

    private int costAnew(int k, int what) {
        if (said[k] != NONE) {
            return 0;
        }
        if (what == 6) {
            return dirt;
        }
        int[] kind = kinds[what];
        int cost = kind[3];
        int area = sign(k, 0);
        int height = sign(k, 4) - sign(k, 2) + 1;
        cost += area < kind[0] ? kind[0] - area : 0;
        cost += area > kind[1] ? area - kind[1] : 0;
        return cost + (height < kind[2] ? 5 * (kind[2] - height) : 0);
    }

    /** Whether these are a READING by the document's words. */
    private boolean isReading(int[] whats) {
        List<Integer> clean = new ArrayList<>();
        for (int what : whats) {
            if (what != 6) {
                clean.add(what);
            }
        }
        clean.add(5);
        int sum = 0;
        boolean something = false;
        for (int i = 0; i < clean.size(); i++) {
            int what = clean.get(i);
            int ahead = i == 0 ? NONE : clean.get(i - 1);
            if (what == 4 && ahead != 0 && ahead != 1) {
                return false;
            }
            if (what == 5) {
                if (something && sum != time) {
                    return false;
                }
                sum = 0;
                something = false;
            } else {
                sum += what == 4 ? TIMES[ahead] / 2 : TIMES[what];
                something = true;
            }
        }
        return true;
    }

    /** The first of the cheapest READINGS of those that are allowed, each tried; null: none. */
    private int[] cheapestByTrial(boolean[][] allowed) {
        int n = blots.size();
        int[] best = null;
        int bestCost = Integer.MAX_VALUE;
        int all = 1;
        for (int i = 0; i < n; i++) {
            all *= 7;
        }
        int[] whats = new int[n];
        for (int number = 0; number < all; number++) {
            int rest = number;
            int sum = 0;
            boolean may = true;
            for (int k = n - 1; k >= 0; k--) {
                whats[k] = rest % 7;
                rest /= 7;
                sum += cost(k, whats[k]);
                may &= allowed[k][whats[k]];
            }
            if (may && sum < bestCost && isReading(whats)) {
                best = whats.clone();
                bestCost = sum;
            }
        }
        return best;
    }

    /** What the cheapest READING of those that are allowed costs; LEAST: none. */
    private int cheapest(boolean[][] allowed) {
        Map<String, int[]> states = new HashMap<>();
        states.put("0 -1", new int[] {0, NONE, 0});
        for (int k = 0; k < blots.size(); k++) {
            Map<String, int[]> next = new HashMap<>();
            for (int[] s : states.values()) {
                for (int what = 0; what < 7; what++) {
                    int[] t = allowed[k][what] ? after(s, what) : null;
                    if (t == null) {
                        continue;
                    }
                    t[2] = s[2] + cost(k, what);
                    String name = t[0] + " " + t[1];
                    if (!next.containsKey(name) || next.get(name)[2] > t[2]) {
                        next.put(name, t);
                    }
                }
            }
            states = next;
        }
        int best = LEAST;
        for (int[] s : states.values()) {
            if ((s[0] == 0 || s[0] == time) && (best == LEAST || s[2] < best)) {
                best = s[2];
            }
        }
        return best;
    }

    private int[] after(int[] s, int what) {
        if (what == 6) {
            return s.clone();
        }
        if (what == 5) {
            return s[0] == 0 || s[0] == time ? new int[] {0, 5, 0} : null;
        }
        if (what == 4 && s[1] != 0 && s[1] != 1) {
            return null;
        }
        int sum = s[0] + (what == 4 ? TIMES[s[1]] / 2 : TIMES[what]);
        return sum > time ? null : new int[] {sum, what, 0};
    }

    private boolean[][] allowed() {
        boolean[][] allowed = new boolean[blots.size()][7];
        for (int k = 0; k < allowed.length; k++) {
            for (int what = 0; what < 7; what++) {
                allowed[k][what] = said[k] == NONE || said[k] == what;
            }
        }
        return allowed;
    }

    /** BEST, sign by sign the first that leaves the cheapest possible; null: none. */
    int[] bestReading() {
        if (bestOnce == null) {
            bestOnce = new int[][] {blots == null ? null : bestAnew()};
        }
        return bestOnce[0];
    }

    private int[] bestAnew() {
        boolean[][] allowed = allowed();
        if (blots.size() <= 4) {
            return cheapestByTrial(allowed);
        }
        int least = cheapest(allowed);
        if (least == LEAST) {
            return null;
        }
        int[] best = new int[allowed.length];
        for (int k = 0; k < best.length; k++) {
            boolean[] might = allowed[k];
            for (int what = 0; what < 7; what++) {
                allowed[k] = new boolean[7];
                allowed[k][what] = might[what];
                if (might[what] && cheapest(allowed) == least) {
                    best[k] = what;
                    break;
                }
            }
        }
        return best;
    }

    private int costOf(int[] reading) {
        int sum = 0;
        for (int k = 0; k < reading.length; k++) {
            sum += cost(k, reading[k]);
        }
        return sum;
    }

    int best() {
        int[] best = bestReading();
        return best == null ? NOT : costOf(best);
    }

    private int refusal(int k) {
        if (k < 0 || k > 39) {
            return BAD;
        }
        if (blots == null) {
            return NOT;
        }
        if (k >= blots.size()) {
            return BAD;
        }
        return bestReading() == null ? NOT : 0;
    }

    int read(int k) {
        return refusal(k) != 0 ? refusal(k) : bestReading()[k];
    }

    int doubt(int k) {
        if (refusal(k) != 0) {
            return refusal(k);
        }
        int[] best = bestReading();
        boolean[][] allowed = allowed();
        allowed[k][best[k]] = false;
        int other = LEAST;
        if (blots.size() <= 4) {
            int[] reading = cheapestByTrial(allowed);
            other = reading == null ? LEAST : costOf(reading);
        } else {
            other = cheapest(allowed);
        }
        return other == LEAST ? NONE : other - costOf(best);
    }

    int question() {
        if (bestReading() == null) {
            return NOT;
        }
        int question = NONE;
        int least = Integer.MAX_VALUE;
        for (int k = 0; k < blots.size(); k++) {
            int doubt = doubt(k);
            if (doubt != NONE && doubt < least) {
                least = doubt;
                question = k;
            }
        }
        return question;
    }

    /** The numbers of the SIGNS of each MEASURE, without BARS and DIRT. */
    private List<List<Integer>> measureList() {
        int[] best = bestReading();
        List<List<Integer>> list = new ArrayList<>();
        List<Integer> now = new ArrayList<>();
        for (int k = 0; k <= best.length; k++) {
            if (k == best.length || best[k] == 5) {
                if (!now.isEmpty()) {
                    list.add(now);
                }
                now = new ArrayList<>();
            } else if (best[k] != 6) {
                now.add(k);
            }
        }
        return list;
    }

    int measures() {
        return bestReading() == null ? NOT : measureList().size();
    }

    int note(int measure, int i, int what) {
        int[] best = bestReading();
        if (best == null || what < 0 || what > 2 || measure < 0 || i < 0
                || measure >= measureList().size()) {
            return LEAST;
        }
        List<Integer> inIt = measureList().get(measure);
        List<int[]> notes = new ArrayList<>();
        for (int at = 0; at < inIt.size(); at++) {
            int k = inIt.get(at);
            if (best[k] <= 2) {
                boolean dotted = at + 1 < inIt.size() && best[inIt.get(at + 1)] == 4;
                notes.add(new int[] {k, sign(k, 5), TIMES[best[k]] + (dotted ? TIMES[best[k]] / 2 : 0)});
            }
        }
        return i < notes.size() ? notes.get(i)[what] : LEAST;
    }

    int sway(int measure, int v) {
        if (measure < 0 || measure > 39 || v < 0 || v > 4) {
            return BAD;
        }
        int was = ways[measure];
        ways[measure] = v;
        return was;
    }

    int played(int i) {
        if (i < 0 || i > 199) {
            return BAD;
        }
        if (bestReading() == null) {
            return NOT;
        }
        List<Integer> way = new ArrayList<>();
        boolean[] gone = new boolean[40];
        int m = 0;
        while (m < measureList().size() && way.size() < 200) {
            boolean again = gone[m];
            if (ways[m] == 3 && again) {
                m++;
                continue;
            }
            way.add(m);
            if (ways[m] >= 2 && !again) {
                gone[m] = true;
                int to = ways[m] == 4 ? 0 : m;
                while (to > 0 && ways[to] != 1) {
                    to--;
                }
                m = to;
            } else {
                m++;
            }
        }
        return i < way.size() ? way.get(i) : NONE;
    }

    int count(int what) {
        switch (what) {
            case 0: return blots == null ? NONE : blots.size();
            case 1: return staffLines() == null ? 0 : 1;
            case 2: return gap();
            case 3: return (int) Arrays.stream(said).filter(s -> s != NONE).count();
            case 4: return blacks();
            default: return BAD;
        }
    }

    private int blacks() {
        int sum = 0;
        for (boolean[] row : board) {
            for (boolean black : row) {
                sum += black ? 1 : 0;
            }
        }
        return sum;
    }
}
