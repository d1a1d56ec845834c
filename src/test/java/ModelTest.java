import java.util.Random;
import java.util.function.IntSupplier;

/** Runs of calls on ScoreReader and on PlainReader, which must answer alike. */
public final class ModelTest {
    private static final int[] EDGES = {-1, 0, 1, 2, 5, 6, 7, 9, 10, 31, 32, 39, 40, 48, 59, 60, 61,
        199, 200, 2000, 2001, Integer.MIN_VALUE, Integer.MAX_VALUE, Integer.MIN_VALUE + 1, -40};

    private final Random random;
    private final ScoreReader x = new ScoreReader();
    private final PlainReader plain = new PlainReader();
    private final int run;
    private final int signs;
    private int calls = 0;

    private ModelTest(int run) {
        this.run = run;
        random = new Random(run);
        signs = 1 + random.nextInt(run % 5 == 0 ? 45 : run % 5 == 1 ? 14 : 5);
    }

    public static void main(String[] args) {
        for (int run = 0; run < 400; run++) {
            new ModelTest(run).play();
        }
        Due.end("ModelTest");
    }

    /** What an object answers behind its 512th call is free, so each run ends there. */
    private void play() {
        for (int i = 0; calls < 512; i++) {
            if (i % 40 == 0) {
                draw();
            }
            if (random.nextInt(25) == 0) {
                anyCall();
            } else {
                likelyCall();
            }
        }
    }

    private void due(String call, IntSupplier got, IntSupplier want) {
        if (calls < 512) {
            calls++;
            Due.is("run " + run + ", call " + calls + ": " + call, got.getAsInt(), want.getAsInt());
        }
    }

    /** A board with a staff, mostly, and some signs on it. */
    private void draw() {
        ink(0, 0, 60, 32, false);
        if (random.nextInt(4) != 0) {
            int gap = 2 + random.nextInt(6);
            int y = random.nextInt(32 - 4 * gap);
            for (int i = 0; i < 5; i++) {
                int w = 36 + random.nextInt(25);
                int h = random.nextInt(5) == 0 ? 2 : 1;
                ink(random.nextInt(61 - w), Math.min(31, y), w, Math.min(h, 32 - Math.min(31, y)), true);
                y += gap + random.nextInt(8) / 7;
            }
        }
        for (int i = 0; i < signs; i++) {
            blot();
        }
        find();
        for (int k = 0; k < 6; k++) {
            kind();
        }
    }

    private void blot() {
        int w = 1 + random.nextInt(3);
        int h = 1 + random.nextInt(random.nextInt(4) == 0 ? 12 : 3);
        ink(random.nextInt(60 - w), random.nextInt(32 - h), w, h, true);
    }

    private void likelyCall() {
        int n = Math.max(1, plain.count(0));
        switch (random.nextInt(24)) {
            case 0: blot(); find(); break;
            case 1: case 2: kind(); break;
            case 3: set(1, 2 * (1 + random.nextInt(24))); break;
            case 4: set(1, 4 * (1 + random.nextInt(5))); break;
            case 5: set(0, random.nextInt(80)); break;
            case 6: case 7: correct(random.nextInt(n), random.nextInt(8) - 1); break;
            case 8: correct(random.nextInt(n), -1); break;
            case 9: due("best()", x::best, plain::best); break;
            case 10: readAll(); break;
            case 11: doubt(random.nextInt(n)); doubt(random.nextInt(n)); break;
            case 12: question(); break;
            case 13: due("measures()", x::measures, plain::measures); break;
            case 14: notes(); break;
            case 15: case 16: sway(random.nextInt(6), random.nextInt(5)); break;
            case 17: playedAll(); break;
            case 18: count(random.nextInt(5)); break;
            case 19: sign(random.nextInt(n), random.nextInt(7)); sign(random.nextInt(n), 5); break;
            case 20: staff(random.nextInt(5), random.nextInt(2)); break;
            case 21: due("lines()", x::lines, plain::lines); break;
            case 22: dot(random.nextInt(60), random.nextInt(32)); break;
            default: change(); break;
        }
    }

    private void change() {
        switch (random.nextInt(4)) {
            case 0: row(random.nextInt(32), random.nextLong() & random.nextLong() & (1L << 60) - 1); break;
            case 1: run(10 + random.nextInt(51)); break;
            case 2: ink(random.nextInt(30), random.nextInt(16), 1 + random.nextInt(30),
                    1 + random.nextInt(16), false); break;
            default: break;
        }
        if (random.nextInt(4) != 0) {
            find();
        }
    }

    private int any() {
        return random.nextInt(3) == 0 ? random.nextInt(12) : EDGES[random.nextInt(EDGES.length)];
    }

    private void anyCall() {
        switch (random.nextInt(15)) {
            case 0: row(any(), random.nextLong() >> random.nextInt(64)); break;
            case 1: ink(any(), any(), any(), any(), random.nextBoolean()); break;
            case 2: run(any()); break;
            case 3: dot(any(), any()); break;
            case 4: staff(any(), any()); break;
            case 5: sign(any(), any()); break;
            case 6: kind(any(), any(), any(), any(), any()); break;
            case 7: set(any(), any()); break;
            case 8: correct(any(), any()); break;
            case 9: read(any()); break;
            case 10: doubt(any()); break;
            case 11: note(any(), any(), any()); break;
            case 12: sway(any(), any()); break;
            case 13: played(any()); break;
            default: count(any()); break;
        }
    }

    private void readAll() {
        int[] best = plain.bestReading();
        for (int k = 0; best != null && k < best.length; k++) {
            read(k);
        }
        read(random.nextInt(41) - 1);
    }

    private void notes() {
        for (int i = 0; i < 4; i++) {
            note(random.nextInt(3), i, random.nextInt(3));
        }
    }

    private void playedAll() {
        for (int i = 0; i < 12; i++) {
            played(i);
        }
        played(random.nextInt(200));
    }

    private void question() {
        if (plain.count(0) <= 14) {
            due("question()", x::question, plain::question);
        }
    }

    private void find() {
        due("find()", x::find, plain::find);
    }

    private void kind() {
        int low = random.nextInt(8);
        kind(random.nextInt(6), low, low + random.nextInt(20), 1 + random.nextInt(8), random.nextInt(20));
    }

    private void row(int y, long dots) {
        due("row(" + y + ", " + dots + ")", () -> x.row(y, dots), () -> plain.row(y, dots));
    }

    private void ink(int left, int y, int w, int h, boolean black) {
        due("ink(" + left + ", " + y + ", " + w + ", " + h + ", " + black + ")",
                () -> x.ink(left, y, w, h, black), () -> plain.ink(left, y, w, h, black));
    }

    private void run(int v) {
        due("run(" + v + ")", () -> x.run(v), () -> plain.run(v));
    }

    private void dot(int left, int y) {
        due("dot(" + left + ", " + y + ")", () -> x.dot(left, y), () -> plain.dot(left, y));
    }

    private void staff(int i, int way) {
        due("staff(" + i + ", " + way + ")", () -> x.staff(i, way), () -> plain.staff(i, way));
    }

    private void sign(int k, int what) {
        due("sign(" + k + ", " + what + ")", () -> x.sign(k, what), () -> plain.sign(k, what));
    }

    private void kind(int k, int low, int high, int least, int price) {
        due("kind(" + k + ", " + low + ", " + high + ", " + least + ", " + price + ")",
                () -> x.kind(k, low, high, least, price), () -> plain.kind(k, low, high, least, price));
    }

    private void set(int way, int v) {
        due("set(" + way + ", " + v + ")", () -> x.set(way, v), () -> plain.set(way, v));
    }

    private void correct(int k, int what) {
        due("correct(" + k + ", " + what + ")", () -> x.correct(k, what), () -> plain.correct(k, what));
    }

    private void read(int k) {
        due("read(" + k + ")", () -> x.read(k), () -> plain.read(k));
    }

    private void doubt(int k) {
        due("doubt(" + k + ")", () -> x.doubt(k), () -> plain.doubt(k));
    }

    private void note(int measure, int i, int what) {
        due("note(" + measure + ", " + i + ", " + what + ")", () -> x.note(measure, i, what),
                () -> plain.note(measure, i, what));
    }

    private void sway(int measure, int v) {
        due("sway(" + measure + ", " + v + ")", () -> x.sway(measure, v), () -> plain.sway(measure, v));
    }

    private void played(int i) {
        due("played(" + i + ")", () -> x.played(i), () -> plain.played(i));
    }

    private void count(int what) {
        due("count(" + what + ")", () -> x.count(what), () -> plain.count(what));
    }
}
