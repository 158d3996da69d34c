import java.util.Arrays;

/** Promises 32 to 38: each sentence that names a boundary case, by itself. */
public final class SheetsEdgesTest {
    private static final int BAD = ButterChurn.BAD, STATE = ButterChurn.STATE, NONE = ButterChurn.NONE;
    private static final int MIN = Integer.MIN_VALUE, MAX = Integer.MAX_VALUE;
    /** What the machine finds. */
    private static final int NULL = 1, INDEX = 2, CAST = 3;

    private SheetsEdgesTest() {
    }

    public static void main(String[] args) {
        keepNumber();
        keepWhether();
        keepWhole();
        keepIsNotTheChurn();
        backNumber();
        backNone();
        backWhole();
        backStays();
        backLeavesTheRest();
        sheetNumber();
        sheetLane();
        sheetSize();
        sheetBelowZero();
        sheetBadFirst();
        sheetNew();
        sheetOfNoCell();
        layNumber();
        layNull();
        layIndex();
        layLowestBits();
        layOneCell();
        readNumber();
        readTimes();
        readOfNone();
        readNull();
        readIndex();
        readFrom();
        readHalfAPair();
        readCast();
        readMost();
        readOneBehindAnother();
        readWholeAhead();
        readBadTurns();
        readBadPaces();
        readBadNoneDone();
        readBadBehindTheFault();
        readBadAheadOfTheFault();
        tornFirst();
        tornOfTheLatest();
        tornLeft();
        countWhat();
        countCows();
        countSeen();
        countImages();
        countBytes();
        countCells();
        Due.end("SheetsEdgesTest");
    }

    // ---- promises 32 and 33

    private static void keepNumber() {
        Due.sentence("32: IMAGE k (0, 1): BAD");
        Look.refused("keep", BAD, x -> x.keep(-1), x -> x.keep(2), x -> x.keep(3), x -> x.keep(MIN),
                x -> x.keep(MAX));
        ButterChurn x = new ButterChurn();
        Due.is("keep(0)", x.keep(0), 0);
        Due.is("keep(1)", x.keep(1), 0);
    }

    private static void keepWhether() {
        Due.sentence("32: whether there was one (1, 0)");
        for (int k = 0; k < 2; k++) {
            ButterChurn x = new ButterChurn();
            Due.is("keep(" + k + ")", x.keep(k), 0);
            Due.is("back of the other", x.back(1 - k), STATE);
            Due.is("keep(" + k + "), once more", x.keep(k), 1);
            Due.is("keep(" + k + "), a third time", x.keep(k), 1);
            Due.is("keep of the other", x.keep(1 - k), 0);
            Due.feed(x, "cow 1 1;");
            x.dairy();
            Due.is("keep(" + k + ") behind a text", x.keep(k), 0);
        }
    }

    private static void keepWhole() {
        Due.sentence("32: IMAGE is THE CHURN (litres, WARMTH, HARD, AIR, drops, TURN, COME)");
        ButterChurn x = Look.full();
        int[] first = Look.churn(x);
        x.keep(1);
        x.turn(60, 5);
        int[] second = Look.churn(x);
        Due.is("whether it has come", second[5] > 0 ? 1 : 0, 1);
        x.keep(0);
        Due.is("feeds(0, 90)", x.feeds(0, 90), 40);
        x.fill(0, 3);
        Due.is("back(1)", x.back(1), first[4]);
        Look.churnIs("image 1", x, first);
        Due.is("back(0)", x.back(0), second[4]);
        Look.churnIs("image 0", x, second);
        // It is as it was kept in what it does, too.
        x.back(1);
        x.turn(60, 5);
        Look.churnIs("image 1, turned", x, second);
    }

    private static void keepIsNotTheChurn() {
        Due.sentence("32: IMAGE is THE CHURN as it was kept");
        ButterChurn x = Look.full();
        x.keep(0);
        int[] kept = Look.churn(x);
        x.turn(5, 5);
        x.half();
        x.warm(9);
        Due.is("whether it has changed", Arrays.equals(Look.churn(x), kept) ? 1 : 0, 0);
        x.back(0);
        Look.churnIs("kept", x, kept);
        x.turn(5, 5);
        x.back(0);
        Look.churnIs("kept, and back twice", x, kept);
        // One that is kept over is in place of it.
        x.turn(5, 5);
        int[] later = Look.churn(x);
        x.keep(0);
        x.fill(1, 1);
        x.back(0);
        Look.churnIs("kept over", x, later);
    }

    private static void backNumber() {
        Due.sentence("33: IMAGE k (0, 1): BAD");
        Look.refused("back", BAD, x -> x.back(-1), x -> x.back(2), x -> x.back(3), x -> x.back(MIN),
                x -> x.back(MAX));
        Due.is("back(2) of a new one", new ButterChurn().back(2), BAD);
    }

    private static void backNone() {
        Due.sentence("33: STATE: there is none");
        Look.refused("back", STATE, x -> x.back(1));
        Due.is("back(0) of a new one", new ButterChurn().back(0), STATE);
        Due.is("back(1) of a new one", new ButterChurn().back(1), STATE);
    }

    private static void backWhole() {
        Due.sentence("33: THE CHURN is as IMAGE k: its TURN");
        ButterChurn x = Due.told("cow 10 50;churn 400;");
        x.keep(0);
        x.turn(400, 1);
        x.keep(1);
        Due.is("back(0)", x.back(0), 0);
        Due.is("now(4)", x.now(4), 0);
        Due.is("back(1)", x.back(1), 400);
        Due.is("now(4)", x.now(4), 400);
        // Of what has COME to what has not, and back.
        ButterChurn y = Due.told("cow 1 50;drops 0 0 0 9;grain 3;");
        y.keep(0);
        y.turn(7, 1);
        y.keep(1);
        Due.is("back(0)", y.back(0), 0);
        Due.is("now(5)", y.now(5), NONE);
        Due.is("over(1)", y.over(1), STATE);
        Due.is("back(1)", y.back(1), 7);
        Due.is("now(5)", y.now(5), 0);
        Due.is("next(1, 0)", y.next(1, 0), STATE);
    }

    private static void backStays() {
        Due.sentence("33: the IMAGE stays");
        ButterChurn x = Look.full();
        Due.is("back(0)", x.back(0), 5);
        x.turn(1, 1);
        Due.is("back(0), once more", x.back(0), 5);
        Due.is("count(2)", x.count(2), 1);
        Due.is("keep(0)", x.keep(0), 1);
    }

    private static void backLeavesTheRest() {
        Due.sentence("33: THE CHURN alone is as the IMAGE");
        ButterChurn x = Look.full();
        x.keep(1);
        x.feeds(0, 90);
        x.saw(1, 1);
        x.turn(3, 3);
        int[] ahead = new int[5];
        for (int what = 0; what < 5; what++) {
            ahead[what] = x.count(what);
        }
        x.back(1);
        for (int what = 0; what < 5; what++) {
            Due.is("count(" + what + ")", x.count(what), ahead[what]);
        }
        Due.is("cow(0, 1)", x.cow(0, 1), 90);
    }

    // ---- promise 34

    private static void sheetNumber() {
        Due.sentence("34: SHEETS 0 to 3: BAD");
        Look.refused("sheet", BAD, x -> x.sheet(-1, 0, 1), x -> x.sheet(4, 0, 1), x -> x.sheet(MIN, 0, 1),
                x -> x.sheet(MAX, 0, 1));
        ButterChurn x = new ButterChurn();
        for (int k = 0; k < 4; k++) {
            Due.is("sheet(" + k + ", 0, 1)", x.sheet(k, 0, 1), 1);
            Due.is("lay(" + k + ", 0, 1)", x.lay(k, 0, 1), 1);
        }
    }

    private static void sheetLane() {
        Due.sentence("34: BYTES (lane 0), SHORTS (1), INTS (2): BAD");
        Look.refused("sheet", BAD, x -> x.sheet(0, -1, 1), x -> x.sheet(0, 3, 1), x -> x.sheet(3, 3, 0),
                x -> x.sheet(0, MIN, 1), x -> x.sheet(0, MAX, 1));
        for (int lane = 0; lane < 3; lane++) {
            ButterChurn x = new ButterChurn();
            Due.is("sheet(0, " + lane + ", 2)", x.sheet(0, lane, 2), 1);
            x.lay(0, 0, 1);
            x.lay(0, 1, 1);
            for (int as = 0; as < 3; as++) {
                Due.is("read(0, " + as + ", 0, 1)", x.read(0, as, 0, 1), as == lane ? 1 : 0);
                Due.is("torn() of lane " + lane + " as " + as, x.torn(), as == lane ? 0 : CAST);
            }
        }
    }

    private static void sheetSize() {
        Due.sentence("34: with 0 to 40 CELLS; BAD: also n above 40");
        Look.refused("sheet", BAD, x -> x.sheet(0, 0, 41), x -> x.sheet(3, 2, 41), x -> x.sheet(0, 0, 80),
                x -> x.sheet(0, 0, MAX));
        int[] sizes = {0, 1, 39, 40};
        for (int n : sizes) {
            for (int lane = 0; lane < 3; lane++) {
                ButterChurn x = new ButterChurn();
                Due.is("sheet(0, " + lane + ", " + n + ")", x.sheet(0, lane, n), 1);
                Due.is("count(4)", x.count(4), n);
                Due.is("lay of the last", x.lay(0, n - 1, 1), n > 0 ? 1 : -10 - INDEX);
                Due.is("lay behind it", x.lay(0, n, 1), -10 - INDEX);
            }
        }
    }

    private static void sheetBelowZero() {
        Due.sentence("34: -14 (SIZE): n below 0");
        Look.refused("sheet", -14, x -> x.sheet(0, 0, -1), x -> x.sheet(3, 2, -1), x -> x.sheet(1, 1, -41),
                x -> x.sheet(0, 0, MIN));
        ButterChurn x = new ButterChurn();
        Due.is("sheet(0, 0, -1)", x.sheet(0, 0, -1), -14);
        Due.is("count(4)", x.count(4), NONE);
        Due.is("torn()", x.torn(), 0);
    }

    private static void sheetBadFirst() {
        Due.sentence("34: the first that fits: BAD ahead of SIZE");
        Look.refused("sheet", BAD, x -> x.sheet(4, 0, -1), x -> x.sheet(-1, 0, -1), x -> x.sheet(0, 3, -1),
                x -> x.sheet(0, -1, MIN));
    }

    private static void sheetNew() {
        Due.sentence("34: a SHEET is a new row of CELLS 0");
        ButterChurn x = Due.told("cow 1 50;churn 400;");
        for (int lane = 0; lane < 3; lane++) {
            x.sheet(2, lane, 40);
            for (int i = 0; i < 40; i++) {
                // One CELL is laid, the one ahead is 0: TURNS 0, then PACE 0.
                Due.is("cell " + i + ", lane " + lane, readOf(x, lane, i), -20);
            }
        }
        x.sheet(2, 0, 2);
        x.lay(2, 0, 5);
        x.lay(2, 1, 5);
        x.sheet(2, 0, 1);
        x.sheet(2, 0, 2);
        x.lay(2, 1, 5);
        Due.is("read of a row made anew, TURNS", x.read(2, 0, 0, 1), -20);
        x.sheet(2, 0, 2);
        x.lay(2, 0, 5);
        Due.is("read of a row made anew, PACE", x.read(2, 0, 0, 1), -20);
        Due.is("now(4)", x.now(4), 0);
    }

    /** A CELL as TURNS by PACE 1, or the last one as PACE: -20, if it is 0. */
    private static int readOf(ButterChurn x, int lane, int i) {
        int other = i < 39 ? i + 1 : i - 1;
        x.lay(2, other, 1);
        int came = x.read(2, lane, Math.min(i, other), 1);
        x.lay(2, other, 0);
        return came;
    }

    private static void sheetOfNoCell() {
        Due.sentence("34: a row of 0 CELLS is not nothing");
        ButterChurn x = new ButterChurn();
        Due.is("count(4) ahead", x.count(4), NONE);
        Due.is("sheet(0, 1, 0)", x.sheet(0, 1, 0), 1);
        Due.is("count(4)", x.count(4), 0);
        Due.is("lay(0, 0, 1)", x.lay(0, 0, 1), -10 - INDEX);
        Due.is("read(0, 1, 0, 1)", x.read(0, 1, 0, 1), 0);
        Due.is("torn()", x.torn(), INDEX);
        Due.is("read(0, 0, 0, 1)", x.read(0, 0, 0, 1), 0);
        Due.is("torn()", x.torn(), CAST);
    }

    // ---- promise 35

    private static void layNumber() {
        Due.sentence("35: BAD: k");
        Look.refused("lay", BAD, x -> x.lay(-1, 0, 1), x -> x.lay(4, 0, 1), x -> x.lay(4, 99, 1),
                x -> x.lay(-1, -1, 1), x -> x.lay(MIN, 0, 1), x -> x.lay(MAX, 0, 1));
        Look.taken("lay", x -> x.lay(0, 0, 1), x -> x.lay(1, 0, 1), x -> x.lay(2, 0, 1));
    }

    private static void layNull() {
        Due.sentence("35: -10 less the FAULT: NULL");
        Look.refused("lay", -10 - NULL, x -> x.lay(3, 0, 1), x -> x.lay(3, -1, 1), x -> x.lay(3, 40, 1),
                x -> x.lay(3, MAX, 1));
        ButterChurn x = Look.full();
        x.sheet(3, 0, -1);
        Due.is("lay of what was refused", x.lay(3, 0, 1), -10 - NULL);
        x.sheet(3, 0, 1);
        Due.is("lay of what was made", x.lay(3, 0, 1), 1);
    }

    private static void layIndex() {
        Due.sentence("35: -10 less the FAULT: INDEX");
        Look.refused("lay", -10 - INDEX, x -> x.lay(0, -1, 1), x -> x.lay(0, 6, 1), x -> x.lay(1, 4, 1),
                x -> x.lay(2, 5, 1), x -> x.lay(0, 40, 1), x -> x.lay(0, MIN, 1), x -> x.lay(0, MAX, 1));
        ButterChurn x = Look.full();
        int[] sizes = {6, 4, 5};
        for (int k = 0; k < 3; k++) {
            Due.is("lay of the first", x.lay(k, 0, 1), 1);
            Due.is("lay of the last", x.lay(k, sizes[k] - 1, 1), 1);
        }
        // A shorter row has none of the CELLS that a longer one had.
        x.sheet(0, 0, 40);
        x.sheet(0, 0, 3);
        Due.is("lay(0, 2, 1)", x.lay(0, 2, 1), 1);
        Due.is("lay(0, 3, 1)", x.lay(0, 3, 1), -10 - INDEX);
    }

    /** What a cell is, told by the TURNS that are read of it: 0, if these are BAD. */
    private static void laid(int lane, int v, int turns) {
        ButterChurn x = Due.told("cow 1 50;churn 400;");
        Look.row(x, 2, lane, v, 1);
        Due.is("read of " + v + " in lane " + lane, x.read(2, lane, 0, 1), turns > 0 ? 1 : -20);
        Due.is("TURNS of " + v + " in lane " + lane, x.now(4), turns);
        // As a PACE it is 1 to 9.
        ButterChurn y = Due.told("cow 1 50;churn 400;beat 1 0;");
        Look.row(y, 2, lane, 1, v);
        boolean good = turns >= 1 && turns <= 9;
        Due.is("read of PACE " + v + " in lane " + lane, y.read(2, lane, 0, 1), good ? 1 : -20);
        Due.is("PACE of " + v + " in lane " + lane, y.now(3), good ? turns : 0);
    }

    private static void layLowestBits() {
        Due.sentence("35: CELL i becomes v (its lowest bits): BYTES, SHORTS, INTS, all with a sign");
        int[][] bytes = {{1, 1}, {127, 127}, {128, 0}, {129, 0}, {255, 0}, {256, 0}, {257, 1}, {383, 127}, {384, 0},
            {400, 0}, {-1, 0}, {-128, 0}, {-129, 127}, {-255, 1}, {MIN + 9, 9}, {MAX, 0}, {MAX - 128, 127}};
        int[][] shorts = {{127, 127}, {128, 128}, {256, 256}, {400, 400}, {401, 0}, {32767, 0}, {32768, 0},
            {65535, 0}, {65536, 0}, {65537, 1}, {65936, 400}, {65937, 0}, {-1, 0}, {-65535, 1}, {-65136, 400},
            {MIN + 9, 9}, {MAX, 0}};
        int[][] ints = {{128, 128}, {400, 400}, {401, 0}, {257, 257}, {65537, 0}, {65936, 0}, {-65535, 0}, {MIN, 0},
            {MIN + 9, 0}, {MAX, 0}, {-1, 0}, {0, 0}};
        for (int[] one : bytes) {
            laid(0, one[0], one[1]);
        }
        for (int[] one : shorts) {
            laid(1, one[0], one[1]);
        }
        for (int[] one : ints) {
            laid(2, one[0], one[1]);
        }
    }

    private static void layOneCell() {
        Due.sentence("35: CELL i of a SHEET, and no other");
        ButterChurn x = Due.told("cow 1 50;churn 400;");
        for (int k = 0; k < 4; k++) {
            Look.row(x, k, 1, 1, 1, 1, 1, 1, 1);
        }
        x.lay(1, 2, 100);
        for (int k = 0; k < 4; k++) {
            x.fill(1, 130);
            Due.is("read(" + k + ", 1, 0, 3)", x.read(k, 1, 0, 3), 3);
            Due.is("TURNS of SHEET " + k, x.now(4), k == 1 ? 102 : 3);
        }
    }

    // ---- promise 36

    /** An object with a litre and SHEET 1 of a lane. */
    private static ButterChurn row(int lane, int... cells) {
        ButterChurn x = Due.told("cow 1 50;churn 400;");
        Look.row(x, 1, lane, cells);
        return x;
    }

    private static void read(ButterChurn x, int lane, int f, int n, int came, int fault, int turns) {
        String call = "read(1, " + lane + ", " + f + ", " + n + ")";
        Due.is(call, x.read(1, lane, f, n), came);
        Due.is("torn() behind " + call, x.torn(), fault);
        Due.is("now(4) behind " + call, x.now(4), turns);
    }

    private static void readNumber() {
        Due.sentence("36: BAD: k, lane");
        Look.refused("read", BAD, x -> x.read(-1, 0, 0, 1), x -> x.read(4, 0, 0, 1), x -> x.read(0, -1, 0, 1),
                x -> x.read(0, 3, 0, 1), x -> x.read(4, 0, 0, 0), x -> x.read(-1, 0, 0, 0),
                x -> x.read(0, 3, 0, 0), x -> x.read(0, -1, 0, 0), x -> x.read(MAX, 0, 0, 1),
                x -> x.read(0, MIN, 0, 1), x -> x.read(3, 3, 0, 1));
        ButterChurn x = Look.full();
        Due.is("read(0, 0, 0, 1)", x.read(0, 0, 0, 1), 1);
        Due.is("read(1, 1, 0, 1)", x.read(1, 1, 0, 1), 1);
        Due.is("read(2, 2, 0, 1)", x.read(2, 2, 0, 1), 1);
        Due.is("read(3, 2, 0, 1)", x.read(3, 2, 0, 1), 0);
    }

    private static void readTimes() {
        Due.sentence("36: n (0 to 20); BAD: n");
        Look.refused("read", BAD, x -> x.read(0, 0, 0, -1), x -> x.read(0, 0, 0, 21), x -> x.read(3, 0, 0, 21),
                x -> x.read(0, 1, 0, 21), x -> x.read(0, 0, 0, MAX), x -> x.read(0, 0, 0, MIN));
        read(row(0, 1, 1), 0, 0, 20, 1, INDEX, 1);
        read(row(0, 1, 1), 0, 0, 1, 1, 0, 1);
        read(row(0, 1, 1), 0, 0, 0, 0, 0, 0);
    }

    private static void readOfNone() {
        Due.sentence("36: of n 0: 0, no FAULT, whatever the SHEET is");
        ButterChurn x = row(0, 0, 99);
        read(x, 1, 0, 1, 0, CAST, 0);
        read(x, 1, 0, 0, 0, 0, 0);
        read(x, 0, 99, 1, 0, INDEX, 0);
        read(x, 0, 99, 0, 0, 0, 0);
        read(x, 0, -1, 1, 0, INDEX, 0);
        read(x, 0, -1, 0, 0, 0, 0);
        read(x, 0, MIN, 0, 0, 0, 0);
        read(x, 0, MAX, 0, 0, 0, 0);
        read(x, 0, 0, 0, 0, 0, 0);
        ButterChurn nothing = new ButterChurn();
        read(nothing, 0, 0, 1, 0, NULL, 0);
        read(nothing, 0, 0, 0, 0, 0, 0);
    }

    private static void readNull() {
        Due.sentence("36: what the machine refuses: 1 NULL (nothing)");
        for (int lane = 0; lane < 3; lane++) {
            read(new ButterChurn(), lane, 0, 1, 0, NULL, 0);
            read(new ButterChurn(), lane, -1, 20, 0, NULL, 0);
            read(new ButterChurn(), lane, MAX, 20, 0, NULL, 0);
        }
    }

    private static void readIndex() {
        Due.sentence("36: what the machine refuses: 2 INDEX");
        read(row(0, 1, 1, 1, 1), 0, 0, 2, 2, 0, 2);
        read(row(0, 1, 1, 1, 1), 0, 2, 1, 1, 0, 1);
        read(row(0, 1, 1, 1, 1), 0, 4, 1, 0, INDEX, 0);
        read(row(0, 1, 1, 1, 1), 0, 5, 1, 0, INDEX, 0);
        read(row(0, 1, 1, 1, 1), 0, 2, 2, 1, INDEX, 1);
        read(row(0, 1, 1, 1, 1), 0, 0, 3, 2, INDEX, 2);
        read(row(0), 0, 0, 1, 0, INDEX, 0);
        int[] forty = new int[40];
        Arrays.fill(forty, 1);
        read(row(2, forty), 2, 38, 1, 1, 0, 1);
        read(row(2, forty), 2, 38, 2, 1, INDEX, 1);
        read(row(2, forty), 2, 40, 1, 0, INDEX, 0);
    }

    private static void readFrom() {
        Due.sentence("36: from CELL f on: below 0, and far above");
        int[] from = {-1, -2, -3, -40, MIN, MIN + 1, MAX, MAX - 1, MAX - 40, 1 << 30};
        for (int f : from) {
            read(row(0, 1, 1, 1, 1), 0, f, 1, 0, INDEX, 0);
            read(row(0, 1, 1, 1, 1), 0, f, 20, 0, INDEX, 0);
        }
        // From each CELL on: these are the TURNS, the next the PACE.
        for (int f = 0; f < 5; f++) {
            read(row(0, 1, 2, 3, 4, 5, 6), 0, f, 1, 1, 0, f + 1);
        }
    }

    private static void readHalfAPair() {
        Due.sentence("36: two CELLS each: one alone is not whole");
        read(row(0, 1), 0, 0, 1, 0, INDEX, 0);
        read(row(0, 1, 1, 1), 0, 0, 2, 1, INDEX, 1);
        read(row(0, 1, 1, 1), 0, 2, 1, 0, INDEX, 0);
        read(row(0, 1, 1, 1), 0, 1, 1, 1, 0, 1);
        read(row(0, 1, 1, 1, 1), 0, 1, 2, 1, INDEX, 1);
        read(row(0, 1, 1, 1, 1), 0, 3, 1, 0, INDEX, 0);
        // Its first CELL is BAD, but it is not whole.
        read(row(0, 1, 1, 0), 0, 0, 2, 1, INDEX, 1);
    }

    private static void readCast() {
        Due.sentence("36: what the machine refuses: 3 CAST (another lane), ahead of INDEX");
        for (int lane = 0; lane < 3; lane++) {
            for (int as = 0; as < 3; as++) {
                boolean other = as != lane;
                read(row(lane, 1, 1), as, 0, 1, other ? 0 : 1, other ? CAST : 0, other ? 0 : 1);
                read(row(lane, 1, 1), as, 2, 1, 0, other ? CAST : INDEX, 0);
                read(row(lane, 1, 1), as, -1, 1, 0, other ? CAST : INDEX, 0);
                read(row(lane), as, 0, 1, 0, other ? CAST : INDEX, 0);
                // A TURN of another lane is not met, as it is BAD.
                ButterChurn x = row(lane, 0, 0);
                Due.is("read of a BAD TURN", x.read(1, as, 0, 1), other ? 0 : -20);
            }
        }
    }

    private static void readMost() {
        Due.sentence("36: how many came: 20 of 40 CELLS");
        int[] forty = new int[40];
        for (int i = 0; i < 40; i++) {
            forty[i] = i % 2 == 0 ? 400 : 9;
        }
        read(row(1, forty), 1, 0, 20, 20, 0, 8000);
        read(row(2, forty), 2, 0, 19, 19, 0, 7600);
        int[] less = Arrays.copyOf(forty, 39);
        read(row(2, less), 2, 0, 20, 19, INDEX, 7600);
    }

    private static void readOneBehindAnother() {
        Due.sentence("36: turn()s (TURNS, PACE) are done one behind another");
        ButterChurn x = row(0, 3, 9, 1, 2, 40, 1);
        read(x, 0, 0, 3, 3, 0, 44);
        ButterChurn y = Due.told("cow 1 50;churn 400;");
        y.turn(3, 9);
        y.turn(1, 2);
        y.turn(40, 1);
        Look.churnIs("as by turn()", x, Look.churn(y));
        // SWOLLEN in the midst of them they came, all the same.
        ButterChurn full = Due.told("cow 9 50;churn 10;beat 50 99;");
        Look.row(full, 1, 0, 1, 1, 5, 5, 6, 6);
        read(full, 0, 0, 3, 3, 0, 12);
        Due.is("now(9)", full.now(9), 2);
    }

    private static void readWholeAhead() {
        Due.sentence("36: those that were whole ahead are done");
        ButterChurn x = row(0, 3, 9, 1, 2, 40);
        read(x, 0, 0, 3, 2, INDEX, 4);
        ButterChurn y = Due.told("cow 1 50;churn 400;");
        y.turn(3, 9);
        y.turn(1, 2);
        Look.churnIs("as by turn()", x, Look.churn(y));
    }

    private static void readBadTurns() {
        Due.sentence("36: -20 less i (0 on): turn() i, whole, is BAD: its TURNS (1 to 400)");
        int[][] due = {{1, 1}, {400, 1}, {0, -20}, {401, -20}, {-1, -20}, {MAX, -20}, {MIN, -20}};
        for (int[] one : due) {
            ButterChurn x = row(2, one[0], 5);
            if (!Due.is("read of TURNS " + one[0], x.read(1, 2, 0, 1), one[1])) {
                return;
            }
            Due.is("now(4)", x.now(4), one[1] == 1 ? one[0] : 0);
        }
    }

    private static void readBadPaces() {
        Due.sentence("36: -20 less i (0 on): turn() i, whole, is BAD: its PACE (1 to 9)");
        int[][] due = {{1, 1}, {9, 1}, {0, -20}, {10, -20}, {-1, -20}, {MAX, -20}, {MIN, -20}};
        for (int[] one : due) {
            ButterChurn x = row(2, 1, one[0]);
            if (!Due.is("read of PACE " + one[0], x.read(1, 2, 0, 1), one[1])) {
                return;
            }
            Due.is("AIR", x.now(3), one[1] == 1 ? 10 * one[0] : 0);
        }
    }

    private static void readBadNoneDone() {
        Due.sentence("36: -20 less i (0 on): then none is done");
        for (int i = 0; i < 20; i++) {
            int[] cells = new int[40];
            Arrays.fill(cells, 1);
            cells[2 * i + i % 2] = 0;
            ButterChurn x = row(0, cells);
            int[] ahead = Look.churn(x);
            Due.is("read with turn() " + i + " BAD", x.read(1, 0, 0, 20), -20 - i);
            Look.churnIs("behind it", x, ahead);
            // Those ahead of it alone are done.
            read(x, 0, 0, i, i, 0, i);
        }
        // From CELL f on they are counted; the first that is BAD is told.
        ButterChurn x = row(0, 1, 1, 1, 1, 0, 1, 1, 0);
        Due.is("read(1, 0, 0, 4)", x.read(1, 0, 0, 4), -22);
        Due.is("read(1, 0, 2, 3)", x.read(1, 0, 2, 3), -21);
        Due.is("read(1, 0, 4, 2)", x.read(1, 0, 4, 2), -20);
        Due.is("read(1, 0, 6, 1)", x.read(1, 0, 6, 1), -20);
        Look.refused("read", SheetsEdgesTest::fullWithABadTurn, -21, y -> y.read(0, 0, 0, 2), y -> y.read(0, 0, 0, 20));
    }

    private static ButterChurn fullWithABadTurn() {
        ButterChurn x = Look.full();
        x.lay(0, 2, 0);
        return x;
    }

    private static void readBadBehindTheFault() {
        Due.sentence("36: turn() i, whole: not one that the machine refuses");
        read(row(0, 2, 1, 0), 0, 0, 2, 1, INDEX, 2);
        read(row(0, 0, 0), 1, 0, 1, 0, CAST, 0);
        read(row(0, 0, 0), 0, 2, 1, 0, INDEX, 0);
        read(row(0, 0, 0), 0, -2, 2, 0, INDEX, 0);
        // Nor one behind the n that are read.
        read(row(0, 2, 1, 0, 0), 0, 0, 1, 1, 0, 2);
    }

    private static void readBadAheadOfTheFault() {
        Due.sentence("36: -20 less i: ahead of what the machine refuses");
        ButterChurn x = row(0, 2, 1, 0, 1, 3);
        Due.is("read(1, 0, 0, 3)", x.read(1, 0, 0, 3), -21);
        Due.is("now(4)", x.now(4), 0);
        Due.is("torn()", x.torn(), 0);
        Due.is("read(1, 0, 0, 20)", x.read(1, 0, 0, 20), -21);
        Due.is("read(1, 0, 2, 2)", x.read(1, 0, 2, 2), -20);
    }

    // ---- promise 37

    private static void tornFirst() {
        Due.sentence("37: 0: ahead of any read()");
        ButterChurn x = new ButterChurn();
        Due.is("torn()", x.torn(), 0);
        x.lay(0, 0, 0);
        x.sheet(0, 0, -1);
        x.read(9, 0, 0, 1);
        Due.is("torn() behind what is no read() of 0 or more", x.torn(), 0);
    }

    private static void tornOfTheLatest() {
        Due.sentence("37: the FAULT of the latest read() that answered 0 or more; 0");
        ButterChurn x = row(0, 1, 1, 1);
        read(x, 0, 0, 1, 1, 0, 1);
        read(x, 0, 0, 2, 1, INDEX, 2);
        read(x, 1, 0, 2, 0, CAST, 2);
        Due.is("read(2, 0, 0, 1)", x.read(2, 0, 0, 1), 0);
        Due.is("torn()", x.torn(), NULL);
        read(x, 0, 1, 1, 1, 0, 3);
        read(x, 2, 1, 1, 0, CAST, 3);
        read(x, 2, 1, 0, 0, 0, 3);
    }

    private static void tornLeft() {
        Due.sentence("37: (one that is refused leaves it)");
        ButterChurn x = row(0, 1, 1, 0, 1);
        int[] as = {1, 0, 0};
        int[] from = {0, 4, 0};
        int[] faults = {CAST, INDEX, 0};
        for (int i = 0; i < 3; i++) {
            x.read(1, as[i], from[i], 1);
            Due.is("torn()", x.torn(), faults[i]);
            Due.is("read(1, 0, 0, 2)", x.read(1, 0, 0, 2), -21);
            Due.is("torn() behind a BAD turn()", x.torn(), faults[i]);
            Due.is("read(1, 0, 0, 21)", x.read(1, 0, 0, 21), BAD);
            Due.is("read(4, 0, 0, 0)", x.read(4, 0, 0, 0), BAD);
            Due.is("read(1, 3, 0, 0)", x.read(1, 3, 0, 0), BAD);
            Due.is("torn() behind BAD ones", x.torn(), faults[i]);
            x.lay(3, 0, 0);
            x.sheet(3, 0, -1);
            Due.feed(x, "#");
            x.dairy();
            Due.is("torn() behind what is no read()", x.torn(), faults[i]);
        }
    }

    // ---- promise 38

    private static void countWhat() {
        Due.sentence("38: 0 COWS .. 4 CELLS of SHEET 0; BAD");
        ButterChurn x = Look.full();
        int[] bad = {-1, 5, MIN, MAX};
        for (int what : bad) {
            Due.is("count(" + what + ")", x.count(what), BAD);
        }
        int[] due = {3, 2, 1, 15, 6};
        for (int what = 0; what < 5; what++) {
            Due.is("count(" + what + ")", x.count(what), due[what]);
        }
    }

    private static void countCows() {
        Due.sentence("38: 0 COWS: none to eight");
        for (int n = 0; n <= 8; n++) {
            Due.is("count(0)", Due.told("cow 1 1;".repeat(n)).count(0), n);
        }
    }

    private static void countSeen() {
        Due.sentence("38: 1 SEEN: none to eight");
        ButterChurn x = new ButterChurn();
        for (int n = 0; n <= 8; n++) {
            Due.is("count(1)", x.count(1), n);
            x.saw(0, 0);
        }
        Due.is("count(1) behind a ninth", x.count(1), 8);
        x.forget();
        Due.is("count(1) behind forget()", x.count(1), 0);
    }

    private static void countImages() {
        Due.sentence("38: 2 IMAGES: none to two");
        ButterChurn x = new ButterChurn();
        Due.is("count(2)", x.count(2), 0);
        x.keep(1);
        Due.is("count(2) behind one", x.count(2), 1);
        x.keep(1);
        Due.is("count(2) behind the same", x.count(2), 1);
        x.back(1);
        Due.is("count(2) behind back()", x.count(2), 1);
        x.keep(0);
        Due.is("count(2) behind two", x.count(2), 2);
        x.dairy();
        Due.is("count(2) behind a text", x.count(2), 0);
    }

    private static void countBytes() {
        Due.sentence("38: 3 bytes on THE TAPE: none to 320");
        ButterChurn x = new ButterChurn();
        for (int n = 0; n <= 320; n += 8) {
            Due.is("count(3)", x.count(3), n);
            x.feed(0);
        }
        Due.is("count(3) of a full one", x.count(3), 320);
        x.end(319);
        Due.is("count(3) behind end(319)", x.count(3), 319);
        x.end(0);
        Due.is("count(3) behind end(0)", x.count(3), 0);
    }

    private static void countCells() {
        Due.sentence("38: 4 CELLS of SHEET 0 (NONE: nothing)");
        ButterChurn x = new ButterChurn();
        for (int k = 1; k < 4; k++) {
            x.sheet(k, 0, 7);
        }
        Due.is("count(4)", x.count(4), NONE);
        int[] sizes = {0, 40, 1, 0};
        for (int n : sizes) {
            x.sheet(0, n % 3, n);
            Due.is("count(4) of " + n, x.count(4), n);
        }
        x.sheet(0, 0, 41);
        x.sheet(0, 0, -1);
        Due.is("count(4) behind refused ones", x.count(4), 0);
    }
}
