import java.util.Arrays;

/** Promises 8 and 9, sentence by sentence where the document names an edge. */
public final class SignsEdgesTest {
    private static final int[] NO_INTS = {-1, Due.LEAST, Due.LEAST + 1, Due.MOST, Due.MOST - 1};

    public static void main(String[] args) {
        promise8NoSign();
        promise8TouchOnAllSides();
        promise8EdgesOfTheBoard();
        promise8OffNeitherAboveNorBelow();
        promise8OffInThatColumn();
        promise8OffAllDotsOfTheLine();
        promise8OffRightAboveItsLine();
        promise8OffAtTheEdgesOfTheBoard();
        promise8OffOnlyTheFive();
        promise8OffBetweenNearLines();
        promise8OffWithoutStaff();
        promise8OffLeavesTheBoard();
        promise8OrderByLeastX();
        promise8OrderByLeastY();
        promise8OrderByTheFirstDot();
        promise8FortyAndOneMore();
        promise8FullTellsNone();
        promise8FullWasNotCounted();
        promise8TheMostOfAll();
        promise8FortyBehindTheStaffIsOff();
        promise9Bounds();
        promise9NotFound();
        promise9BoxAndArea();
        promise9StepCutTowardsTheLesser();
        promise9StepMiddleIsCut();
        promise9StepLeastAndGreatest();
        promise9StepByTheLastRowOfTheFifth();
        promise9StepByTheFirstGap();
        promise9StepWithoutStaff();
        promise9Said();
        Due.end("SignsEdgesTest");
    }

    private static void promise8NoSign() {
        ScoreReader x = new ScoreReader();
        Due.is("no dot: find()", x.find(), 0);
        Due.is("no dot: count(0)", x.count(0), 0);
        Due.is("no dot: sign(0, 0)", x.sign(0, 0), Due.LEAST);
        Due.is("no dot: correct(0, 0)", x.correct(0, 0), Due.BAD);
        Due.is("no dot: find() again", x.find(), 0);
    }

    // "touch one another (also at corners)"
    private static void promise8TouchOnAllSides() {
        for (int at = 0; at < 25; at++) {
            int dx = at % 5 - 2;
            int dy = at / 5 - 2;
            ScoreReader x = new ScoreReader();
            x.ink(20, 10, 1, 1, true);
            x.ink(20 + dx, 10 + dy, 1, 1, true);
            boolean near = Math.abs(dx) < 2 && Math.abs(dy) < 2;
            Due.is("dots " + dx + ", " + dy + " apart: find()", x.find(), near ? 1 : 2);
            int area = dx == 0 && dy == 0 ? 1 : 2;
            Due.is("dots " + dx + ", " + dy + " apart: AREA", x.sign(0, 0), near ? area : 1);
        }
    }

    private static void promise8EdgesOfTheBoard() {
        ScoreReader x = new ScoreReader();
        for (int y = 0; y < 16; y += 3) {
            x.ink(59, y, 1, 1, true);
            x.ink(0, y + 1, 1, 1, true);
        }
        Due.is("right edge and left edge do not touch", x.find(), 12);
        ScoreReader z = new ScoreReader();
        z.row(0, 1L | 1L << 59);
        z.row(31, 1L | 1L << 59);
        Due.is("four corners: find()", z.find(), 4);
        int[][] boxes = {{0, 0}, {0, 31}, {59, 0}, {59, 31}};
        for (int k = 0; k < 4; k++) {
            Due.is("four corners: least x of " + k, z.sign(k, 1), boxes[k][0]);
            Due.is("four corners: least y of " + k, z.sign(k, 2), boxes[k][1]);
            Due.is("four corners: greatest x of " + k, z.sign(k, 3), boxes[k][0]);
            Due.is("four corners: greatest y of " + k, z.sign(k, 4), boxes[k][1]);
        }
    }

    // "if neither the dot right above its LINE (in that column), nor that right below it, is black"
    private static void promise8OffNeitherAboveNorBelow() {
        offKeeps("neither", 0, 0);
        offKeeps("above", 1, 0);
        offKeeps("below", 0, 1);
        offKeeps("above and below", 1, 1);
    }

    private static void offKeeps(String which, int above, int below) {
        for (int line = 0; line < 5; line++) {
            int y = 4 + line * 5;
            ScoreReader x = Boards.staff(4, 5);
            x.ink(30, y - 1, 1, 1, above == 1);
            x.ink(30, y + 1, 1, 1, below == 1);
            String call = which + " of LINE " + line + ": ";
            int kept = above + below;
            Due.is(call + "find()", x.find(), kept == 0 ? 0 : 1);
            Due.is(call + "AREA", x.sign(0, 0), kept == 0 ? Due.LEAST : kept + 1);
            Due.is(call + "least x", x.sign(0, 1), kept == 0 ? Due.LEAST : 30);
            Due.is(call + "greatest x", x.sign(0, 3), kept == 0 ? Due.LEAST : 30);
            Due.is(call + "least y", x.sign(0, 2), kept == 0 ? Due.LEAST : y - above);
            Due.is(call + "greatest y", x.sign(0, 4), kept == 0 ? Due.LEAST : y + below);
        }
    }

    // "(in that column)", also in the first and the last of them
    private static void promise8OffInThatColumn() {
        int[] columns = {0, 1, 58, 59};
        for (int column : columns) {
            ScoreReader x = Boards.staff(4, 5);
            x.ink(column, 3, 1, 1, true);
            Due.is("column " + column + ": find()", x.find(), 1);
            Due.is("column " + column + ": AREA", x.sign(0, 0), 2);
            Due.is("column " + column + ": least x", x.sign(0, 1), column);
            Due.is("column " + column + ": greatest x", x.sign(0, 3), column);
        }
        ScoreReader x = Boards.staff(4, 5);
        x.ink(20, 4, 1, 1, false);
        x.run(30);
        x.ink(20, 3, 1, 1, true);
        Due.is("a white dot stays white: find()", x.find(), 1);
        Due.is("a white dot stays white: AREA", x.sign(0, 0), 1);
        x.ink(20, 2, 1, 1, true);
        x.ink(20, 3, 1, 1, false);
        Due.is("not right above: find()", x.find(), 1);
        Due.is("not right above: AREA", x.sign(0, 0), 1);
        x.ink(20, 4, 1, 1, true);
        Due.is("not right above, black: AREA", x.find() == 1 ? x.sign(0, 0) : -9, 1);
    }

    // "each dot of its five LINES", not of the run alone
    private static void promise8OffAllDotsOfTheLine() {
        ScoreReader x = Boards.staff(4, 5);
        for (int i = 0; i < 5; i++) {
            x.row(4 + i * 5, Boards.dots(40) | 1L << 50 | 1L << 59);
        }
        Due.is("dots beside the run: lines()", x.lines(), 5);
        Due.is("dots beside the run: find()", x.find(), 0);
        x.ink(50, 5, 1, 1, true);
        Due.is("one of them is kept: find()", x.find(), 1);
        Due.is("one of them is kept: AREA", x.sign(0, 0), 2);
    }

    /** The first LINE has rows 4 to 6; columns of it, with the dots above and below them. */
    private static void promise8OffRightAboveItsLine() {
        String[] columns = {".###.", "####.", ".####", "#.##.", ".##.#", "##..#", ".#.#.", "#...#"};
        int[] left = {0, 4, 4, 3, 3, 3, 0, 2};
        int[] signs = {0, 1, 1, 2, 2, 2, 0, 2};
        for (int c = 0; c < columns.length; c++) {
            ScoreReader x = Boards.ruled(4, 5, 6, 9, 14, 19, 24);
            for (int i = 0; i < 5; i++) {
                x.ink(45, 3 + i, 1, 1, columns[c].charAt(i) == '#');
            }
            String call = "three rows, column " + columns[c] + ": ";
            Due.is(call + "staff(0, 1)", x.staff(0, 1), 6);
            Due.is(call + "find()", x.find(), signs[c]);
            int sum = 0;
            for (int k = 0; k < signs[c]; k++) {
                sum += x.sign(k, 0);
            }
            Due.is(call + "AREAS", sum, left[c]);
        }
    }

    // Right above row 0 and right below row 31 there is no dot.
    private static void promise8OffAtTheEdgesOfTheBoard() {
        ScoreReader x = Boards.ruled(0, 8, 16, 24, 31);
        Due.is("rows 0 and 31: find()", x.find(), 0);
        ScoreReader z = Boards.ruled(0, 1, 2, 7, 14, 21, 28, 29, 30, 31);
        Due.is("rows 0 to 2 and 28 to 31: staff(0, 1)", z.staff(0, 1), 2);
        Due.is("rows 0 to 2 and 28 to 31: staff(4, 1)", z.staff(4, 1), 31);
        Due.is("rows 0 to 2 and 28 to 31: find()", z.find(), 0);
        z.ink(7, 3, 1, 1, true);
        z.ink(9, 27, 1, 1, true);
        Due.is("kept at both: find()", z.find(), 2);
        Due.is("kept above: AREA", z.sign(0, 0), 4);
        Due.is("kept above: least y", z.sign(0, 2), 0);
        Due.is("kept below: AREA", z.sign(1, 0), 5);
        Due.is("kept below: greatest y", z.sign(1, 4), 31);
    }

    // "(Others stay ..)": dots between the LINES, LINES ahead of THE STAFF, and behind it.
    private static void promise8OffOnlyTheFive() {
        ScoreReader x = Boards.ruled(0, 2, 6, 10, 14, 18, 23);
        Due.is("seven LINES: staff(0, 0)", x.staff(0, 0), 2);
        Due.is("seven LINES: find()", x.find(), 2);
        Due.is("seven LINES: row 0", x.sign(0, 2), 0);
        Due.is("seven LINES: AREA of it", x.sign(0, 0), 60);
        Due.is("seven LINES: row 23", x.sign(1, 4), 23);
        Due.is("seven LINES: AREA of it", x.sign(1, 0), 60);
        x.row(8, Boards.dots(39));
        x.row(4, 1L << 59);
        Due.is("and two rows that are none: find()", x.find(), 4);
        Due.is("39 dots stay", x.sign(1, 0), 39);
        Due.is("one dot stays", x.sign(3, 0), 1);
        ScoreReader z = Boards.ruled(0, 4, 8, 12, 16, 20);
        Due.is("six even LINES: find()", z.find(), 1);
        Due.is("six even LINES: the sixth stays", z.sign(0, 2), 20);
    }

    /** Lines two rows apart: a dot between keeps both of them in its column. */
    private static void promise8OffBetweenNearLines() {
        ScoreReader x = Boards.staff(10, 2);
        x.ink(5, 11, 1, 1, true);
        x.ink(20, 11, 1, 7, true);
        x.ink(40, 9, 1, 1, true);
        x.ink(50, 19, 1, 1, true);
        Due.is("near LINES: find()", x.find(), 4);
        int[][] want = {{3, 10, 12}, {9, 10, 18}, {2, 9, 10}, {2, 18, 19}};
        for (int k = 0; k < 4; k++) {
            Due.is("near LINES: AREA of " + k, x.sign(k, 0), want[k][0]);
            Due.is("near LINES: least y of " + k, x.sign(k, 2), want[k][1]);
            Due.is("near LINES: greatest y of " + k, x.sign(k, 4), want[k][2]);
        }
    }

    // "without a STAFF all stay"
    private static void promise8OffWithoutStaff() {
        ScoreReader x = Boards.ruled(4, 8, 12, 16);
        Due.is("four LINES: find()", x.find(), 4);
        Due.is("four LINES: AREA", x.sign(3, 0), 60);
        x.row(20, Boards.dots(39));
        Due.is("four and a row of 39: find()", x.find(), 5);
        x.row(20, Boards.dots(40));
        Due.is("five LINES: find()", x.find(), 0);
        x.run(41);
        Due.is("four LINES at RUN 41: find()", x.find(), 5);
        Due.is("four LINES at RUN 41: AREA", x.sign(4, 0), 40);
    }

    private static void promise8OffLeavesTheBoard() {
        ScoreReader x = Boards.staff(4, 4);
        x.find();
        Due.is("behind find(): count(4)", x.count(4), 300);
        Due.is("behind find(): dot(0, 4)", x.dot(0, 4), 1);
        Due.is("behind find(): dot(59, 20)", x.dot(59, 20), 1);
        Due.is("behind find(): lines()", x.lines(), 5);
        Due.is("behind find(): staff(4, 0)", x.staff(4, 0), 20);
        Due.is("behind find(): ink", x.ink(0, 4, 60, 1, false), 60);
        Due.is("behind ink: find()", x.find(), 4);
    }

    // "numbered from 0 by the least x of all dots": not of the first dot, nor of the upper one
    private static void promise8OrderByLeastX() {
        ScoreReader x = new ScoreReader();
        Boards.print(x, 3,
                "..........#..#",
                ".....#...#...#",
                "........#....#",
                ".......#......",
                "......#....#..",
                ".....#........",
                "....#.........",
                "...#.....#....");
        Due.is("least x: find()", x.find(), 5);
        int[] leasts = {3, 5, 9, 11, 13};
        int[] areas = {8, 1, 1, 1, 3};
        for (int k = 0; k < 5; k++) {
            Due.is("least x of " + k, x.sign(k, 1), leasts[k]);
            Due.is("least x: AREA of " + k, x.sign(k, 0), areas[k]);
        }
    }

    // "of several by the least y of all dots": not of the dot with the least x
    private static void promise8OrderByLeastY() {
        ScoreReader x = new ScoreReader();
        Boards.print(x, 0,
                "..............",
                "........#.....",
                ".......#......",
                "......#.......",
                "..#..#........",
                "....#.........",
                "...#..........",
                "..#...........",
                "..............",
                "..##..........");
        Due.is("least y: find()", x.find(), 3);
        int[] areas = {7, 1, 2};
        int[] tops = {1, 4, 9};
        for (int k = 0; k < 3; k++) {
            Due.is("least y: least x of " + k, x.sign(k, 1), 2);
            Due.is("least y of " + k, x.sign(k, 2), tops[k]);
            Due.is("least y: AREA of " + k, x.sign(k, 0), areas[k]);
        }
    }

    // "of several by the first dot, row by row"
    private static void promise8OrderByTheFirstDot() {
        ScoreReader x = new ScoreReader();
        Boards.print(x, 6,
                ".###..#..#",
                ".#...#..#.",
                ".#..#..#..",
                "...#..#...",
                "..#..#....",
                ".#..#.....",
                "...#......",
                "..#.......",
                ".#........");
        Due.is("first dot: find()", x.find(), 3);
        int[] areas = {5, 6, 9};
        int[] bottoms = {8, 11, 14};
        for (int k = 0; k < 3; k++) {
            Due.is("first dot: least x of " + k, x.sign(k, 1), 1);
            Due.is("first dot: least y of " + k, x.sign(k, 2), 6);
            Due.is("first dot: AREA of " + k, x.sign(k, 0), areas[k]);
            Due.is("first dot: greatest y of " + k, x.sign(k, 4), bottoms[k]);
        }
    }

    // "40 at most; more: none are told, FULL"
    private static void promise8FortyAndOneMore() {
        Due.is("39 signs", Boards.dotted(39).find(), 39);
        Due.is("40 signs", Boards.dotted(40).find(), 40);
        Due.is("41 signs", Boards.dotted(41).find(), Due.FULL);
        Due.is("42 signs", Boards.dotted(42).find(), Due.FULL);
        ScoreReader x = Boards.found(40);
        for (int k = 0; k < 40; k++) {
            Due.is("40 signs: least x of " + k, x.sign(k, 1), k);
            Due.is("40 signs: AREA of " + k, x.sign(k, 0), 1);
        }
        Due.is("40 signs: sign(40, 0)", x.sign(40, 0), Due.LEAST);
        Due.is("40 signs: count(0)", x.count(0), 40);
    }

    // "FULL (then none are)"
    private static void promise8FullTellsNone() {
        ScoreReader x = Boards.found(40);
        x.ink(0, 31, 1, 1, true);
        Due.is("41 signs: find()", x.find(), Due.FULL);
        Due.is("41 signs: find() again", x.find(), Due.FULL);
        Due.is("41 signs: count(0)", x.count(0), Due.NONE);
        for (int what = 0; what < 7; what++) {
            Due.is("41 signs: sign(0, " + what + ")", x.sign(0, what), Due.LEAST);
        }
        Due.is("41 signs: correct(0, 0)", x.correct(0, 0), Due.NOT);
        Due.is("41 signs: best()", x.best(), Due.NOT);
        Due.is("41 signs: read(0)", x.read(0), Due.NOT);
        Due.is("41 signs: doubt(0)", x.doubt(0), Due.NOT);
        Due.is("41 signs: question()", x.question(), Due.NOT);
        Due.is("41 signs: measures()", x.measures(), Due.NOT);
        Due.is("41 signs: note(0, 0, 0)", x.note(0, 0, 0), Due.LEAST);
        Due.is("41 signs: played(0)", x.played(0), Due.NOT);
        Due.is("41 signs: count(4)", x.count(4), 41);
        x.ink(0, 31, 1, 1, false);
        Due.is("40 signs again: find()", x.find(), 40);
        Due.is("40 signs again: sign(39, 1)", x.sign(39, 1), 39);
    }

    // "than the time before (one that was FULL not counted)"
    private static void promise8FullWasNotCounted() {
        ScoreReader x = Boards.found(40);
        x.correct(39, 6);
        x.ink(0, 31, 1, 1, true);
        x.find();
        Due.is("FULL: count(3)", x.count(3), 1);
        x.ink(0, 31, 1, 1, false);
        Due.is("FULL, then 40: find()", x.find(), 40);
        Due.is("FULL, then 40: sign(39, 6)", x.sign(39, 6), 6);
        x.ink(0, 31, 1, 1, true);
        x.find();
        x.ink(0, 31, 1, 1, false);
        x.ink(39, 0, 1, 3, false);
        Due.is("FULL, then 39: find()", x.find(), 39);
        Due.is("FULL, then 39: count(3)", x.count(3), 0);
    }

    /** 480 signs, the most that a board can have; and one that goes through all rows. */
    private static void promise8TheMostOfAll() {
        ScoreReader x = new ScoreReader();
        for (int y = 0; y < 32; y += 2) {
            x.row(y, 0x555555555555555L);
        }
        Due.is("480 signs", x.find(), Due.FULL);
        Due.is("480 signs: count(4)", x.count(4), 480);
        for (int y = 1; y < 32; y += 2) {
            x.row(y, 0xAAAAAAAAAAAAAAAL);
        }
        Due.is("a net of corners: find()", x.find(), 1);
        Due.is("a net of corners: AREA", x.sign(0, 0), 960);
        ScoreReader z = new ScoreReader();
        z.run(60);
        for (int y = 0; y < 31; y++) {
            z.row(y, y % 2 == 0 ? Boards.dots(59) : y % 4 == 1 ? 1L << 58 : 1L);
        }
        Due.is("one way through all rows: find()", z.find(), 1);
        Due.is("one way through all rows: AREA", z.sign(0, 0), 16 * 59 + 15);
        z.ink(0, 3, 1, 1, false);
        Due.is("the way cut: find()", z.find(), 2);
        Due.is("the way cut: AREA of the upper", z.sign(0, 0), 2 * 59 + 1);
    }

    private static void promise8FortyBehindTheStaffIsOff() {
        ScoreReader x = Boards.staff(10, 4);
        for (int i = 0; i < 40; i++) {
            x.ink(i, i % 2 * 2, 1, 1, true);
        }
        Due.is("40 signs and a STAFF: find()", x.find(), 40);
        x.ink(50, 28, 1, 1, true);
        Due.is("41 signs and a STAFF: find()", x.find(), Due.FULL);
        x.row(0, Boards.WHITE);
        x.row(10, Boards.dots(39));
        Due.is("21 signs and five rows: find()", x.find(), 21 + 5);
    }

    // "Of a SIGN: 0 .. 6. The least int: BAD"
    private static void promise9Bounds() {
        ScoreReader x = Boards.found(3);
        Due.is("sign(0, 0)", x.sign(0, 0), 1);
        Due.is("sign(2, 6)", x.sign(2, 6), Due.NONE);
        Due.is("sign(3, 0)", x.sign(3, 0), Due.LEAST);
        Due.is("sign(39, 0)", x.sign(39, 0), Due.LEAST);
        Due.is("sign(40, 0)", x.sign(40, 0), Due.LEAST);
        Due.is("sign(0, 7)", x.sign(0, 7), Due.LEAST);
        Due.is("sign(3, 7)", x.sign(3, 7), Due.LEAST);
        for (int v : NO_INTS) {
            Due.is("sign(" + v + ", 0)", x.sign(v, 0), Due.LEAST);
            Due.is("sign(" + v + ", 6)", x.sign(v, 6), Due.LEAST);
            Due.is("sign(0, " + v + ")", x.sign(0, v), Due.LEAST);
            Due.is("sign(" + v + ", " + v + ")", x.sign(v, v), Due.LEAST);
        }
        ScoreReader one = Boards.found(1);
        Due.is("one sign: sign(0, 0)", one.sign(0, 0), 1);
        Due.is("one sign: sign(1, 0)", one.sign(1, 0), Due.LEAST);
    }

    private static void promise9NotFound() {
        ScoreReader x = Boards.dotted(3);
        Due.is("not found: sign(0, 0)", x.sign(0, 0), Due.LEAST);
        x.find();
        Due.is("found: sign(0, 0)", x.sign(0, 0), 1);
        x.run(10);
        Due.is("RUN changed: sign(0, 0)", x.sign(0, 0), Due.LEAST);
        x.find();
        x.row(31, 1L);
        Due.is("a row changed: sign(0, 0)", x.sign(0, 0), Due.LEAST);
        x.find();
        x.ink(0, 31, 1, 1, false);
        Due.is("ink changed: sign(0, 6)", x.sign(0, 6), Due.LEAST);
    }

    private static void promise9BoxAndArea() {
        facts(new int[] {1, 0, 0, 0, 0}, 0, 0, "#");
        facts(new int[] {1, 59, 31, 59, 31}, 31, 59, "#");
        facts(new int[] {7, 2, 3, 4, 6}, 3, 2, "###", "#", "#.#", ".#");
        facts(new int[] {5, 0, 28, 2, 30}, 28, 0, ".#", "#.#", "##");
        ScoreReader x = new ScoreReader();
        x.ink(0, 0, 60, 32, true);
        x.ink(1, 1, 58, 30, false);
        Due.is("a frame: find()", x.find(), 1);
        int[] frame = {180, 0, 0, 59, 31, -1001, Due.NONE};
        for (int what = 0; what < 7; what++) {
            Due.is("a frame: sign(0, " + what + ")", x.sign(0, what), frame[what]);
        }
        x.ink(0, 0, 60, 32, true);
        x.find();
        Due.is("all black: AREA", x.sign(0, 0), 1920);
    }

    private static void facts(int[] want, int top, int left, String... rows) {
        ScoreReader x = new ScoreReader();
        for (int i = 0; i < rows.length; i++) {
            rows[i] = " ".repeat(left) + rows[i];
        }
        Boards.print(x, top, rows);
        Due.is("box " + Arrays.toString(want) + ": find()", x.find(), 1);
        for (int what = 0; what < 5; what++) {
            Due.is("box " + Arrays.toString(want) + ": " + what, x.sign(0, what), want[what]);
        }
    }

    /** A sign of one dot at each row that no LINE's dots touch, by GAP, the fifth LINE at 'last'. */
    private static void step(ScoreReader x, int row, int want) {
        x.ink(0, row, 1, 1, true);
        Due.is("STEP at row " + row + ": find()", x.find(), 1);
        Due.is("STEP at row " + row, x.sign(0, 5), want);
        x.ink(0, row, 1, 1, false);
    }

    // "how often half of GAP is in .., cut towards the lesser"
    private static void promise9StepCutTowardsTheLesser() {
        ScoreReader four = Boards.staff(4, 4);
        int[] rowsOfFour = {0, 1, 2, 6, 10, 14, 18, 22, 23, 24, 25, 26, 30, 31};
        int[] stepsOfFour = {10, 9, 9, 7, 5, 3, 1, -1, -2, -2, -3, -3, -5, -6};
        for (int i = 0; i < rowsOfFour.length; i++) {
            step(four, rowsOfFour[i], stepsOfFour[i]);
        }
        ScoreReader five = Boards.staff(5, 5);
        int[] rowsOfFive = {0, 1, 2, 3, 7, 8, 12, 13, 22, 23, 27, 28, 29, 30, 31};
        int[] stepsOfFive = {10, 9, 9, 8, 7, 6, 5, 4, 1, 0, -1, -2, -2, -2, -3};
        for (int i = 0; i < rowsOfFive.length; i++) {
            step(five, rowsOfFive[i], stepsOfFive[i]);
        }
        ScoreReader three = Boards.staff(8, 3);
        int[] rowsOfThree = {0, 1, 2, 3, 4, 5, 6, 22, 23, 24, 25, 26, 31};
        int[] stepsOfThree = {13, 12, 12, 11, 10, 10, 9, -2, -2, -3, -4, -4, -8};
        for (int i = 0; i < rowsOfThree.length; i++) {
            step(three, rowsOfThree[i], stepsOfThree[i]);
        }
    }

    // "the middle row of the BOX (least and greatest y together, by 2, cut)"
    private static void promise9StepMiddleIsCut() {
        int[][] boxes = {{22, 22, -2}, {22, 23, -2}, {22, 24, -3}, {22, 25, -3}, {23, 24, -3},
            {23, 31, -7}, {0, 1, 20}, {0, 2, 19}, {0, 3, 19}, {1, 2, 19}, {0, 8, 16}};
        for (int[] b : boxes) {
            ScoreReader x = Boards.staff(12, 2);
            x.ink(30, b[0], 1, b[1] - b[0] + 1, true);
            Due.is("box " + b[0] + " to " + b[1] + ": find()", x.find(), 1);
            Due.is("box " + b[0] + " to " + b[1] + ": STEP", x.sign(0, 5), b[2]);
        }
    }

    private static void promise9StepLeastAndGreatest() {
        step(Boards.staff(0, 2), 31, -23);
        step(Boards.staff(23, 2), 0, 31);
        step(Boards.ruled(0, 8, 16, 24, 31), 4, 6);
        step(Boards.ruled(0, 8, 16, 24, 31), 29, 0);
        step(Boards.ruled(0, 7, 15, 23, 31), 4, 7);
        ScoreReader x = Boards.staff(4, 4);
        x.ink(30, 19, 1, 3, true);
        Due.is("the middle in the fifth LINE: find()", x.find(), 1);
        Due.is("the middle in the fifth LINE: STEP", x.sign(0, 5), 0);
        x.ink(30, 3, 1, 3, true);
        Due.is("the middle in the first LINE: find()", x.find(), 2);
        Due.is("the middle in the first LINE: STEP", x.sign(0, 5), 8);
    }

    // "in the last row of the fifth LINE less .."
    private static void promise9StepByTheLastRowOfTheFifth() {
        ScoreReader x = Boards.staff(4, 4);
        x.ink(0, 20, 60, 3, true);
        step(x, 28, -3);
        step(x, 18, 2);
        step(x, 0, 11);
        ScoreReader z = Boards.staff(4, 4);
        z.ink(0, 3, 60, 1, true);
        Due.is("a thick first LINE: count(2)", z.count(2), 5);
        step(z, 0, 8);
        step(z, 25, -2);
        step(z, 26, -3);
    }

    // "GAP is that between the first two of them"
    private static void promise9StepByTheFirstGap() {
        step(Boards.ruled(4, 8, 13, 18, 23), 27, -2);
        step(Boards.ruled(4, 9, 13, 17, 21), 26, -2);
        step(Boards.ruled(4, 9, 13, 17, 21), 25, -2);
        step(Boards.ruled(4, 9, 13, 17, 21), 23, -1);
    }

    // "5 STEP (NONE less 1000 without a STAFF)"
    private static void promise9StepWithoutStaff() {
        step(new ScoreReader(), 0, -1001);
        step(new ScoreReader(), 31, -1001);
        ScoreReader x = Boards.staff(4, 4);
        x.ink(0, 30, 1, 1, true);
        x.find();
        Due.is("with a STAFF: STEP", x.sign(0, 5), -5);
        x.row(20, Boards.WHITE);
        x.find();
        for (int k = 0; k < 5; k++) {
            Due.is("without a STAFF: STEP of " + k, x.sign(k, 5), -1001);
        }
    }

    // "6 what a CORRECTOR said (NONE)"
    private static void promise9Said() {
        ScoreReader x = Boards.found(40);
        for (int k = 0; k < 40; k++) {
            Due.is("nothing said of " + k, x.sign(k, 6), Due.NONE);
            x.correct(k, k % 7);
        }
        for (int k = 0; k < 40; k++) {
            Due.is("said of " + k, x.sign(k, 6), k % 7);
        }
        x.correct(39, -1);
        Due.is("taken back of 39", x.sign(39, 6), Due.NONE);
        Due.is("not of 38", x.sign(38, 6), 38 % 7);
    }
}
