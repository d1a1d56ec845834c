import java.util.Arrays;

/** Promises 10 to 12, sentence by sentence where the document names an edge. */
public final class KindsEdgesTest {
    private static final int QUARTER = 0, HALF = 1, WHOLE = 2, REST = 3, DOT = 4, BAR = 5, DIRT = 6;
    private static final int NONE = -1;
    private static final int[] NO_INTS = {-1, Due.LEAST, Due.LEAST + 1, Due.MOST, Due.MOST - 1};
    /** THE TIME in which one SIGN of a KIND (a DOT: behind a QUARTER) is a READING. */
    private static final int[] TIMES = {4, 8, 16, 4, 6, 2};

    public static void main(String[] args) {
        promise10KindsAtFirst();
        promise10KindBounds();
        promise10LowAndHighBounds();
        promise10HighNotBelowLow();
        promise10HeightAndPriceBounds();
        promise10TwoGroundsAtOnce();
        promise10BelowLowAboveHigh();
        promise10FiveForEachRow();
        promise10AllTogether();
        promise10EachKindItsOwn();
        promise10EndsNothing();
        promise11DirtBounds();
        promise11TimeBounds();
        promise11WayBounds();
        promise11EachItsOwn();
        promise12KindBounds();
        promise12SignBounds();
        promise12NotFound();
        promise12NoSign();
        promise12BadAheadOfNot();
        promise12CostsNothing();
        promise12IsNothingElse();
        promise12TakenBack();
        promise12HoldsForTheNumber();
        promise12AnotherNumberIsFound();
        promise12RefusedSaysNothing();
        Due.end("KindsEdgesTest");
    }

    /** One SIGN that is a READING only as a KIND, or dearly as another, or as DIRT for 1000. */
    private static ScoreReader alone(int kind, int w, int h) {
        ScoreReader x = new ScoreReader();
        int left = kind == DOT ? 3 : 0;
        if (kind == DOT) {
            x.ink(0, 0, 1, 1, true);
        }
        x.ink(left, 0, w, h, true);
        Due.is("alone: find()", x.find(), kind == DOT ? 2 : 1);
        if (kind == DOT) {
            x.correct(0, QUARTER);
        }
        x.set(1, TIMES[kind]);
        x.set(0, 1000);
        return x;
    }

    private static void dear(ScoreReader x, int but) {
        for (int kind = 0; kind < 6; kind++) {
            if (kind != but) {
                Due.is("dear: kind(" + kind + ")", x.kind(kind, 2000, 2000, 32, 100), 1);
            }
        }
    }

    /** What a SIGN of this box costs as a KIND of these numbers. */
    private static void cost(int kind, int w, int h, int[] numbers, int want) {
        ScoreReader x = alone(kind, w, h);
        dear(x, kind);
        String call = "KIND " + kind + " " + Arrays.toString(numbers) + ", box " + w + " by " + h + ": ";
        Due.is(call + "kind", x.kind(kind, numbers[0], numbers[1], numbers[2], numbers[3]), 1);
        Due.is(call + "best()", x.best(), want);
    }

    // "(LOW 1, HIGH 2000, LEAST HEIGHT 1 at first), a PRICE (.. 50 at first)", for each KIND
    private static void promise10KindsAtFirst() {
        for (int kind = 0; kind < 6; kind++) {
            int[][] boxes = {{1, 1}, {2, 1}, {1, 32}, {57, 1}, {57, 32}};
            for (int[] b : boxes) {
                ScoreReader x = alone(kind, b[0], b[1]);
                dear(x, kind);
                Due.is("at first: KIND " + kind + " of " + b[0] + " by " + b[1], x.best(), 50);
            }
        }
        ScoreReader x = new ScoreReader();
        x.ink(0, 0, 60, 32, true);
        x.find();
        Due.is("at first: all black", x.best(), 50);
    }

    // "KINDS of signs: 0 .. 5"; BAD: no such KIND.
    private static void promise10KindBounds() {
        ScoreReader x = new ScoreReader();
        for (int kind = 0; kind < 6; kind++) {
            Due.is("kind(" + kind + ", ..)", x.kind(kind, 1, 1, 1, 1), 1);
        }
        Due.is("kind(6, ..)", x.kind(6, 1, 1, 1, 1), Due.BAD);
        for (int kind : NO_INTS) {
            Due.is("kind(" + kind + ", ..)", x.kind(kind, 1, 1, 1, 1), Due.BAD);
        }
    }

    // "LOW, HIGH (0 .. 2000, ..)"
    private static void promise10LowAndHighBounds() {
        ScoreReader x = new ScoreReader();
        for (int kind = 0; kind < 6; kind++) {
            Due.is("LOW 0, HIGH 0", x.kind(kind, 0, 0, 1, 1), 1);
            Due.is("LOW 0, HIGH 2000", x.kind(kind, 0, 2000, 1, 1), 1);
            Due.is("LOW 2000, HIGH 2000", x.kind(kind, 2000, 2000, 1, 1), 1);
            Due.is("LOW -1, HIGH 2000", x.kind(kind, -1, 2000, 1, 1), Due.BAD);
            Due.is("LOW 0, HIGH 2001", x.kind(kind, 0, 2001, 1, 1), Due.BAD);
            Due.is("LOW 2001, HIGH 2001", x.kind(kind, 2001, 2001, 1, 1), Due.BAD);
            Due.is("LOW -1, HIGH -1", x.kind(kind, -1, -1, 1, 1), Due.BAD);
            for (int v : NO_INTS) {
                Due.is("LOW " + v, x.kind(kind, v, 2000, 1, 1), Due.BAD);
                Due.is("HIGH " + v, x.kind(kind, 0, v, 1, 1), Due.BAD);
                Due.is("LOW and HIGH " + v, x.kind(kind, v, v, 1, 1), Due.BAD);
            }
        }
    }

    // "not below LOW"
    private static void promise10HighNotBelowLow() {
        ScoreReader x = new ScoreReader();
        int[] lows = {1, 2, 7, 1000, 1999, 2000};
        for (int low : lows) {
            Due.is("HIGH one below LOW " + low, x.kind(2, low, low - 1, 1, 1), Due.BAD);
            Due.is("HIGH 0 below LOW " + low, x.kind(2, low, 0, 1, 1), Due.BAD);
            Due.is("HIGH alike LOW " + low, x.kind(2, low, low, 1, 1), 1);
            Due.is("HIGH above LOW " + low, x.kind(2, low, Math.min(2000, low + 1), 1, 1), 1);
        }
    }

    // "LEAST HEIGHT (1 .. 32), PRICE (0 .. 100)"
    private static void promise10HeightAndPriceBounds() {
        ScoreReader x = new ScoreReader();
        Due.is("LEAST HEIGHT 1", x.kind(2, 1, 9, 1, 50), 1);
        Due.is("LEAST HEIGHT 32", x.kind(2, 1, 9, 32, 50), 1);
        Due.is("LEAST HEIGHT 0", x.kind(2, 1, 9, 0, 50), Due.BAD);
        Due.is("LEAST HEIGHT 33", x.kind(2, 1, 9, 33, 50), Due.BAD);
        Due.is("PRICE 0", x.kind(2, 1, 9, 1, 0), 1);
        Due.is("PRICE 100", x.kind(2, 1, 9, 1, 100), 1);
        Due.is("PRICE 101", x.kind(2, 1, 9, 1, 101), Due.BAD);
        for (int v : NO_INTS) {
            Due.is("LEAST HEIGHT " + v, x.kind(2, 1, 9, v, 50), Due.BAD);
            Due.is("PRICE " + v, x.kind(2, 1, 9, 1, v), Due.BAD);
        }
    }

    private static void promise10TwoGroundsAtOnce() {
        ScoreReader x = new ScoreReader();
        Due.is("no KIND, no LOW", x.kind(6, -1, 9, 1, 50), Due.BAD);
        Due.is("no KIND, HIGH below LOW", x.kind(-1, 9, 8, 1, 50), Due.BAD);
        Due.is("HIGH below LOW, no height", x.kind(0, 9, 8, 0, 50), Due.BAD);
        Due.is("no height, no PRICE", x.kind(0, 1, 9, 33, 101), Due.BAD);
        Due.is("no LOW, no PRICE", x.kind(0, 2001, 2001, 1, -1), Due.BAD);
        Due.is("nothing good", x.kind(Due.MOST, Due.LEAST, Due.MOST, Due.LEAST, Due.MOST), Due.BAD);
    }

    // "by how much its AREA is below LOW or above HIGH"
    private static void promise10BelowLowAboveHigh() {
        for (int kind = 0; kind < 6; kind++) {
            cost(kind, 6, 2, new int[] {12, 2000, 1, 0}, 0);
            cost(kind, 6, 2, new int[] {13, 2000, 1, 0}, 1);
            cost(kind, 6, 2, new int[] {14, 2000, 1, 0}, 2);
            cost(kind, 6, 2, new int[] {0, 12, 1, 0}, 0);
            cost(kind, 6, 2, new int[] {0, 11, 1, 0}, 1);
            cost(kind, 6, 2, new int[] {0, 10, 1, 0}, 2);
            cost(kind, 6, 2, new int[] {12, 12, 1, 0}, 0);
            cost(kind, 6, 2, new int[] {0, 0, 1, 0}, 12);
            cost(kind, 1, 1, new int[] {900, 900, 1, 0}, 899);
        }
        ScoreReader x = new ScoreReader();
        x.ink(0, 0, 60, 32, true);
        x.find();
        x.kind(WHOLE, 1919, 1919, 1, 0);
        Due.is("all black, HIGH 1919", x.best(), 1);
        x.kind(WHOLE, 1920, 1920, 1, 0);
        Due.is("all black, HIGH 1920", x.best(), 0);
        x.kind(WHOLE, 1921, 1921, 1, 0);
        Due.is("all black, LOW 1921", x.best(), 1);
    }

    // "5 for each row by which its BOX is lower than LEAST HEIGHT"
    private static void promise10FiveForEachRow() {
        for (int kind = 0; kind < 6; kind++) {
            cost(kind, 2, 4, new int[] {0, 2000, 1, 0}, 0);
            cost(kind, 2, 4, new int[] {0, 2000, 3, 0}, 0);
            cost(kind, 2, 4, new int[] {0, 2000, 4, 0}, 0);
            cost(kind, 2, 4, new int[] {0, 2000, 5, 0}, 5);
            cost(kind, 2, 4, new int[] {0, 2000, 6, 0}, 10);
            cost(kind, 2, 4, new int[] {0, 2000, 32, 0}, 140);
            cost(kind, 2, 32, new int[] {0, 2000, 32, 0}, 0);
            cost(kind, 2, 31, new int[] {0, 2000, 32, 0}, 5);
            cost(kind, 2, 1, new int[] {0, 2000, 32, 0}, 155);
        }
        ScoreReader x = new ScoreReader();
        Boards.print(x, 4, "#.#", ".#.");
        x.find();
        x.kind(WHOLE, 3, 3, 2, 0);
        Due.is("the BOX has two rows", x.best(), 0);
        x.kind(WHOLE, 3, 3, 3, 0);
        Due.is("the BOX has not three", x.best(), 5);
    }

    // "PRICE, and .., and ..": all of them are added.
    private static void promise10AllTogether() {
        for (int kind = 0; kind < 6; kind++) {
            cost(kind, 3, 2, new int[] {0, 2000, 1, 100}, 100);
            cost(kind, 3, 2, new int[] {0, 2000, 1, 1}, 1);
            cost(kind, 3, 2, new int[] {9, 20, 1, 7}, 10);
            cost(kind, 3, 2, new int[] {9, 20, 4, 7}, 20);
            cost(kind, 3, 2, new int[] {1, 2, 4, 7}, 21);
            cost(kind, 3, 2, new int[] {500, 500, 32, 100}, 494 + 150 + 100);
        }
        ScoreReader x = alone(BAR, 1, 1);
        dear(x, NONE);
        x.set(0, 1000);
        Due.is("DIRT is less than 2254", x.best(), 1000);
        x.correct(0, DIRT);
        Due.is("said to be DIRT", x.best(), 0);
    }

    private static void promise10EachKindItsOwn() {
        for (int kind = 0; kind < 6; kind++) {
            for (int other = 0; other < 6; other++) {
                ScoreReader x = alone(kind, 2, 2);
                dear(x, kind);
                x.kind(kind, 1, 9, 1, 20);
                if (other != kind) {
                    x.kind(other, 10, 10, 5, 90);
                }
                Due.is("KIND " + kind + " beside " + other, x.best(), 20);
            }
        }
    }

    private static void promise10EndsNothing() {
        ScoreReader x = Boards.said(WHOLE, BAR);
        Due.is("kind: 1", x.kind(0, 1, 1, 1, 1), 1);
        Due.is("kind: still found", x.count(0), 2);
        Due.is("kind: still said", x.count(3), 2);
        Due.is("set: which it was", x.set(0, 9), 60);
        Due.is("set: still found", x.count(0), 2);
        Due.is("set: best()", x.best(), 0);
    }

    // "THE DIRT (0 .. 1000; 60 at first)"
    private static void promise11DirtBounds() {
        ScoreReader x = Boards.found(1);
        dear(x, NONE);
        Due.is("THE DIRT at first", x.best(), 60);
        Due.is("set(0, 0)", x.set(0, 0), 60);
        Due.is("THE DIRT 0", x.best(), 0);
        Due.is("set(0, 1000)", x.set(0, 1000), 0);
        Due.is("THE DIRT 1000", x.best(), 1000);
        Due.is("set(0, 1001)", x.set(0, 1001), Due.BAD);
        for (int v : NO_INTS) {
            Due.is("set(0, " + v + ")", x.set(0, v), Due.BAD);
        }
        Due.is("set(0, 1000) again", x.set(0, 1000), 1000);
        Due.is("THE DIRT still 1000", x.best(), 1000);
    }

    // "THE TIME (2 .. 48; 16 at first)"
    private static void promise11TimeBounds() {
        ScoreReader x = Boards.said(WHOLE);
        Due.is("THE TIME at first", x.best(), 0);
        Due.is("set(1, 2)", x.set(1, 2), 16);
        Due.is("THE TIME 2", x.best(), Due.NOT);
        Due.is("set(1, 48)", x.set(1, 48), 2);
        Due.is("THE TIME 48", x.best(), Due.NOT);
        Due.is("set(1, 1)", x.set(1, 1), Due.BAD);
        Due.is("set(1, 0)", x.set(1, 0), Due.BAD);
        Due.is("set(1, 49)", x.set(1, 49), Due.BAD);
        Due.is("set(1, 1000)", x.set(1, 1000), Due.BAD);
        for (int v : NO_INTS) {
            Due.is("set(1, " + v + ")", x.set(1, v), Due.BAD);
        }
        int was = 48;
        for (int v = 2; v <= 48; v++) {
            Due.is("set(1, " + v + ")", x.set(1, v), was);
            Due.is("a WHOLE in " + v, x.best(), v == 16 ? 0 : Due.NOT);
            was = v;
        }
    }

    // "THE DIRT (way 0), THE TIME (1)"
    private static void promise11WayBounds() {
        ScoreReader x = new ScoreReader();
        Due.is("set(2, 16)", x.set(2, 16), Due.BAD);
        Due.is("set(2, 2000)", x.set(2, 2000), Due.BAD);
        for (int way : NO_INTS) {
            Due.is("set(" + way + ", 16)", x.set(way, 16), Due.BAD);
            Due.is("set(" + way + ", " + way + ")", x.set(way, way), Due.BAD);
        }
        Due.is("set refused: THE DIRT", x.set(0, 60), 60);
        Due.is("set refused: THE TIME", x.set(1, 16), 16);
    }

    private static void promise11EachItsOwn() {
        ScoreReader x = new ScoreReader();
        Due.is("set(0, 7)", x.set(0, 7), 60);
        Due.is("set(1, 9)", x.set(1, 9), 16);
        Due.is("set(0, 1)", x.set(0, 1), 7);
        Due.is("set(1, 48)", x.set(1, 48), 9);
        Due.is("set(0, 49)", x.set(0, 49), 1);
    }

    // "(0 .. 5, 6 DIRT; -1: takes it back): what was said (NONE)"
    private static void promise12KindBounds() {
        ScoreReader x = Boards.found(2);
        int was = Due.NONE;
        for (int what = -1; what <= 6; what++) {
            Due.is("correct(1, " + what + ")", x.correct(1, what), was);
            Due.is("correct(1, " + what + "): sign(1, 6)", x.sign(1, 6), what);
            was = what;
        }
        Due.is("correct(1, -2)", x.correct(1, -2), Due.BAD);
        Due.is("correct(1, 7)", x.correct(1, 7), Due.BAD);
        for (int v : NO_INTS) {
            if (v != -1) {
                Due.is("correct(1, " + v + ")", x.correct(1, v), Due.BAD);
            }
        }
        Due.is("correct refused: sign(1, 6)", x.sign(1, 6), 6);
        Due.is("correct: of the other nothing", x.sign(0, 6), Due.NONE);
    }

    // BAD: no such SIGN.
    private static void promise12SignBounds() {
        for (int size : new int[] {1, 2, 39, 40}) {
            ScoreReader x = Boards.found(size);
            Due.is("of " + size + ": correct(0, 3)", x.correct(0, REST), Due.NONE);
            Due.is("of " + size + ": the last", x.correct(size - 1, HALF), size == 1 ? REST : Due.NONE);
            Due.is("of " + size + ": one more", x.correct(size, HALF), Due.BAD);
            Due.is("of " + size + ": one more, taken back", x.correct(size, -1), Due.BAD);
            for (int v : NO_INTS) {
                Due.is("of " + size + ": correct(" + v + ", 0)", x.correct(v, 0), Due.BAD);
                Due.is("of " + size + ": correct(" + v + ", -1)", x.correct(v, -1), Due.BAD);
            }
            Due.is("of " + size + ": count(3)", x.count(3), Math.min(2, size));
        }
    }

    // "NOT: SIGNS are not found", also where something had been said
    private static void promise12NotFound() {
        ScoreReader x = Boards.dotted(40);
        for (int k = 0; k < 40; k++) {
            Due.is("not found: correct(" + k + ", 2)", x.correct(k, WHOLE), Due.NOT);
        }
        x.find();
        Due.is("nothing was said: count(3)", x.count(3), 0);
        x.correct(4, WHOLE);
        x.run(40);
        Due.is("not found: correct(4, 3)", x.correct(4, REST), Due.NOT);
        Due.is("not found: correct(4, -1)", x.correct(4, -1), Due.NOT);
        x.find();
        Due.is("found anew: sign(4, 6)", x.sign(4, 6), WHOLE);
        x.ink(59, 31, 1, 1, true);
        x.find();
        Due.is("FULL: correct(4, 3)", x.correct(4, REST), Due.NOT);
    }

    private static void promise12NoSign() {
        ScoreReader x = new ScoreReader();
        x.find();
        Due.is("no SIGN: correct(0, 2)", x.correct(0, WHOLE), Due.BAD);
        Due.is("no SIGN: correct(0, -1)", x.correct(0, -1), Due.BAD);
        Due.is("no SIGN: correct(39, 2)", x.correct(39, WHOLE), Due.BAD);
        Due.is("no SIGN: count(3)", x.count(3), 0);
    }

    // "the first that fits: BAD .., NOT .."
    private static void promise12BadAheadOfNot() {
        ScoreReader x = Boards.dotted(2);
        Due.is("not found, no KIND", x.correct(0, 7), Due.BAD);
        Due.is("not found, no KIND", x.correct(0, -2), Due.BAD);
        Due.is("not found, no number of a SIGN", x.correct(-1, 2), Due.BAD);
        Due.is("not found, no number of a SIGN", x.correct(40, 2), Due.BAD);
        for (int v : NO_INTS) {
            Due.is("not found: correct(" + v + ", 2)", x.correct(v, 2), Due.BAD);
            Due.is("not found: correct(" + v + ", 7)", x.correct(v, 7), Due.BAD);
        }
        x.find();
        Due.is("no SIGN, no KIND", x.correct(2, 7), Due.BAD);
        Due.is("no SIGN, no KIND", x.correct(-1, -2), Due.BAD);
    }

    // "then it costs 0 so"
    private static void promise12CostsNothing() {
        for (int what = 0; what <= 6; what++) {
            int kind = what == DIRT ? BAR : what;
            ScoreReader x = alone(kind, 4, 4);
            dear(x, NONE);
            int k = kind == DOT ? 1 : 0;
            x.correct(k, what);
            Due.is("said " + what + ": best()", x.best(), 0);
            Due.is("said " + what + ": read", x.read(k), what);
            Due.is("said " + what + ": doubt", x.doubt(k), Due.NONE);
        }
    }

    // "and is nothing else", even if there is no READING then
    private static void promise12IsNothingElse() {
        ScoreReader x = Boards.found(1);
        x.set(0, 0);
        for (int what = 0; what <= 6; what++) {
            x.correct(0, what);
            boolean reads = what == WHOLE || what == BAR || what == DIRT;
            Due.is("said " + what + " in 16: best()", x.best(), reads ? 0 : Due.NOT);
            Due.is("said " + what + " in 16: read(0)", x.read(0), reads ? what : Due.NOT);
        }
        ScoreReader z = Boards.found(2);
        z.correct(1, HALF);
        z.kind(QUARTER, 1, 2000, 1, 0);
        Due.is("a HALF wants a HALF", z.read(0), HALF);
        Due.is("a HALF wants a HALF: best()", z.best(), 50);
        z.set(1, 12);
        Due.is("a HALF wants a QUARTER", z.read(0), QUARTER);
    }

    // "until it is taken back"
    private static void promise12TakenBack() {
        ScoreReader x = Boards.found(2);
        x.correct(0, DIRT);
        x.correct(1, WHOLE);
        Due.is("two said: best()", x.best(), 0);
        Due.is("correct(0, -1)", x.correct(0, -1), DIRT);
        Due.is("taken back: sign(0, 6)", x.sign(0, 6), Due.NONE);
        Due.is("taken back: count(3)", x.count(3), 1);
        Due.is("taken back: best()", x.best(), 50);
        Due.is("taken back: read(0)", x.read(0), BAR);
        Due.is("correct(0, -1) once more", x.correct(0, -1), Due.NONE);
        Due.is("the other stays", x.sign(1, 6), WHOLE);
    }

    // "holds for SIGNS by their number"
    private static void promise12HoldsForTheNumber() {
        ScoreReader x = new ScoreReader();
        x.ink(20, 5, 1, 1, true);
        x.ink(30, 5, 2, 1, true);
        x.find();
        x.correct(0, WHOLE);
        x.ink(30, 5, 2, 1, false);
        x.ink(10, 5, 3, 1, true);
        Due.is("another SIGN has the number: find()", x.find(), 2);
        Due.is("another SIGN has the number: AREA", x.sign(0, 0), 3);
        Due.is("another SIGN has the number: sign(0, 6)", x.sign(0, 6), WHOLE);
        Due.is("another SIGN has the number: sign(1, 6)", x.sign(1, 6), Due.NONE);
        x.ink(0, 0, 60, 32, false);
        x.ink(0, 0, 1, 1, true);
        x.ink(9, 9, 1, 1, true);
        x.find();
        Due.is("quite another board: sign(0, 6)", x.sign(0, 6), WHOLE);
        x.find();
        Due.is("found twice: sign(0, 6)", x.sign(0, 6), WHOLE);
    }

    // "or another number of SIGNS is found than the time before"
    private static void promise12AnotherNumberIsFound() {
        int[][] sizes = {{1, 0}, {1, 2}, {2, 1}, {39, 40}, {40, 39}, {40, 0}, {40, 1}};
        for (int[] s : sizes) {
            ScoreReader x = Boards.found(s[0]);
            x.correct(0, WHOLE);
            for (int i = 0; i < 40; i++) {
                x.ink(i, i % 2 * 2, 1, 1, i < s[1]);
            }
            String call = s[0] + " signs, then " + s[1] + ": ";
            Due.is(call + "count(3) ahead of find()", x.count(3), 1);
            Due.is(call + "find()", x.find(), s[1]);
            Due.is(call + "count(3)", x.count(3), 0);
            Due.is(call + "sign(0, 6)", x.sign(0, 6), s[1] == 0 ? Due.LEAST : Due.NONE);
        }
        ScoreReader x = Boards.found(2);
        x.correct(1, BAR);
        x.ink(9, 9, 1, 1, true);
        x.find();
        x.ink(9, 9, 1, 1, false);
        Due.is("there and back: find()", x.find(), 2);
        Due.is("there and back: count(3)", x.count(3), 0);
        x.correct(1, BAR);
        x.ink(9, 9, 1, 1, true);
        x.ink(9, 9, 1, 1, false);
        x.find();
        Due.is("there and back, not found between: count(3)", x.count(3), 1);
    }

    private static void promise12RefusedSaysNothing() {
        ScoreReader x = Boards.found(2);
        x.correct(0, WHOLE);
        x.correct(2, REST);
        x.correct(-1, REST);
        x.correct(0, 7);
        x.correct(1, -2);
        Due.is("correct refused: count(3)", x.count(3), 1);
        Due.is("correct refused: sign(0, 6)", x.sign(0, 6), WHOLE);
        Due.is("correct refused: sign(1, 6)", x.sign(1, 6), Due.NONE);
        Due.is("correct refused: best()", x.best(), 50);
    }
}
