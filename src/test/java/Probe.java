import java.util.Arrays;
import java.util.function.Supplier;

/**
 * All that objects which are made alike can be asked. What is asked changes some of them, and an
 * object is used for 512 calls at most: so each part of the questions goes to an object of its own.
 */
final class Probe {
    private static final int[] TIMES = {4, 8, 16, 4, 6, 2};

    private final Supplier<ScoreReader> maker;
    private long[] told = new long[4096];
    private int size = 0;

    private Probe(Supplier<ScoreReader> maker) {
        this.maker = maker;
    }

    static long[] of(Supplier<ScoreReader> maker) {
        Probe probe = new Probe(maker);
        for (int part = 0; part < 8; part++) {
            probe.dots(part * 4);
        }
        probe.signs();
        probe.readings();
        probe.notes();
        probe.way();
        probe.numbers();
        for (int kind = 0; kind < 6; kind++) {
            probe.kind(kind);
        }
        probe.foundAnew();
        return Arrays.copyOf(probe.told, probe.size);
    }

    private void tell(long answer) {
        told[size] = answer;
        size++;
    }

    private void dots(int top) {
        ScoreReader x = maker.get();
        for (int i = 0; i < 240; i++) {
            tell(x.dot(i % 60, top + i / 60));
        }
    }

    private void signs() {
        ScoreReader x = maker.get();
        for (int i = 0; i < 280; i++) {
            tell(x.sign(i / 7, i % 7));
        }
    }

    private void readings() {
        ScoreReader x = maker.get();
        for (int what = 0; what < 5; what++) {
            tell(x.count(what));
        }
        tell(x.lines());
        for (int i = 0; i < 5; i++) {
            tell(x.staff(i, 0));
            tell(x.staff(i, 1));
        }
        tell(x.best());
        tell(x.question());
        tell(x.measures());
        for (int k = 0; k < 40; k++) {
            tell(x.read(k));
            tell(x.doubt(k));
        }
    }

    private void notes() {
        ScoreReader x = maker.get();
        for (int m = 0; m < 21; m++) {
            for (int i = 0; i < 4; i++) {
                tell(x.note(m, i, 0));
                tell(x.note(m, i, 1));
                tell(x.note(m, i, 2));
            }
        }
    }

    private void way() {
        ScoreReader x = maker.get();
        for (int i = 0; i < 200; i++) {
            tell(x.played(i));
        }
    }

    /** Numbers that only a change tells. */
    private void numbers() {
        ScoreReader x = maker.get();
        for (int m = 0; m < 40; m++) {
            tell(x.sway(m, 0));
        }
        for (int k = 0; k < 40; k++) {
            tell(x.correct(k, -1));
        }
        tell(x.set(0, 0));
        tell(x.set(1, 2));
        tell(x.run(60));
    }

    /** What SIGNS of some sizes cost as a KIND, all else being dear. */
    private void kind(int kind) {
        ScoreReader x = maker.get();
        for (int other = 0; other < 6; other++) {
            if (other != kind) {
                x.kind(other, 2000, 2000, 32, 100);
            }
        }
        x.set(0, 1000);
        x.set(1, TIMES[kind]);
        x.run(60);
        int[][] boxes = {{1, 1}, {2, 2}, {5, 3}, {1, 9}, {57, 1}, {57, 32}};
        for (int[] b : boxes) {
            x.ink(0, 0, 60, 32, false);
            x.find();
            x.ink(3, 0, b[0], b[1], true);
            if (kind == 4) {
                x.ink(0, 0, 1, 1, true);
            }
            tell(x.find());
            if (kind == 4) {
                x.correct(0, 0);
            }
            tell(x.best());
        }
    }

    /** What a CORRECTOR said, and whether as many SIGNS as before are found. */
    private void foundAnew() {
        ScoreReader x = maker.get();
        tell(x.find());
        tell(x.count(3));
        tell(x.ink(59, 31, 1, 1, false));
        tell(x.find());
        tell(x.count(3));
        for (int k = 0; k < 40; k++) {
            tell(x.sign(k, 6));
        }
        tell(x.best());
    }
}
