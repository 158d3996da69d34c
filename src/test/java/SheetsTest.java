/** Promises 32 to 38: images, sheets, turns read from them, what there is. */
public final class SheetsTest {
    private static final int NONE = ButterChurn.NONE;

    private SheetsTest() {
    }

    public static void main(String[] args) {
        images();
        madeAndLaid();
        lowestBits();
        readAll();
        refusedByTheMachine();
        badTurns();
        tornStays();
        counted();
        Due.end("SheetsTest");
    }

    private static void images() {
        ButterChurn x = Due.told("cow 9 50;cow 7 20;churn 400;");
        int[] first = all(x);
        Due.is("back(0)", x.back(0), ButterChurn.STATE);
        Due.is("keep(0)", x.keep(0), 0);
        Due.is("count(2)", x.count(2), 1);
        x.fill(1, 200);
        x.turn(60, 7);
        int[] second = all(x);
        Due.is("whether it has come", second[5] >= 0 ? 1 : 0, 1);
        Due.is("back(1)", x.back(1), ButterChurn.STATE);
        Due.is("keep(1)", x.keep(1), 0);
        Due.is("count(2)", x.count(2), 2);
        Due.is("back(0)", x.back(0), 0);
        same(x, first);
        x.turn(3, 3);
        Due.is("back(1)", x.back(1), 60);
        same(x, second);
        x.half();
        x.warm(0);
        Due.is("back(1) once more", x.back(1), 60);
        same(x, second);
        Due.is("keep(0) over an image", x.keep(0), 1);
        Due.is("back(0)", x.back(0), 60);
        int[] bad = {-1, 2, Integer.MAX_VALUE, Integer.MIN_VALUE};
        for (int k : bad) {
            Due.is("keep(" + k + ")", x.keep(k), ButterChurn.BAD);
            Due.is("back(" + k + ")", x.back(k), ButterChurn.BAD);
        }
    }

    private static int[] all(ButterChurn x) {
        int[] all = new int[17];
        for (int what = 0; what < 10; what++) {
            all[what] = x.now(what);
        }
        for (int k = 0; k < 7; k++) {
            all[10 + k] = x.drops(k);
        }
        return all;
    }

    private static void same(ButterChurn x, int[] want) {
        int[] got = all(x);
        for (int i = 0; i < want.length; i++) {
            Due.is("the churn's number " + i, got[i], want[i]);
        }
    }

    private static void madeAndLaid() {
        ButterChurn x = new ButterChurn();
        for (int k = 0; k < 4; k++) {
            Due.is("lay on nothing", x.lay(k, 0, 1), -11);
            Due.is("lay on nothing, without such a cell", x.lay(k, -1, 1), -11);
            Due.is("sheet(" + k + ", 1, 2)", x.sheet(k, 1, 2), 1);
            Due.is("lay(" + k + ", 0, 5)", x.lay(k, 0, 5), 1);
            Due.is("lay(" + k + ", 1, 5)", x.lay(k, 1, 5), 1);
            Due.is("lay(" + k + ", 2, 5)", x.lay(k, 2, 5), -12);
            Due.is("lay(" + k + ", -1, 5)", x.lay(k, -1, 5), -12);
        }
        Due.is("lay(4, 0, 5)", x.lay(4, 0, 5), ButterChurn.BAD);
        Due.is("lay(-1, 0, 5)", x.lay(-1, 0, 5), ButterChurn.BAD);
        Due.is("lay(0, MAX, 5)", x.lay(0, Integer.MAX_VALUE, 5), -12);
        Due.is("lay(0, MIN, 5)", x.lay(0, Integer.MIN_VALUE, 5), -12);
        Due.is("sheet(0, 0, 40)", x.sheet(0, 0, 40), 1);
        Due.is("lay(0, 39, 5)", x.lay(0, 39, 5), 1);
        Due.is("lay(0, 40, 5)", x.lay(0, 40, 5), -12);
        // A sheet without a cell is not nothing.
        Due.is("sheet(0, 0, 0)", x.sheet(0, 0, 0), 1);
        Due.is("count(4)", x.count(4), 0);
        Due.is("lay(0, 0, 5)", x.lay(0, 0, 5), -12);
        int[][] bad = {{-1, 0, 1}, {4, 0, 1}, {0, -1, 1}, {0, 3, 1}, {0, 0, 41}, {0, 0, Integer.MAX_VALUE},
            {4, 0, -1}, {0, 3, -1}};
        for (int[] a : bad) {
            Due.is("bad sheet", x.sheet(a[0], a[1], a[2]), ButterChurn.BAD);
        }
        Due.is("sheet(0, 0, -1)", x.sheet(0, 0, -1), -14);
        Due.is("sheet(0, 0, MIN)", x.sheet(0, 0, Integer.MIN_VALUE), -14);
        Due.is("count(4) behind refused ones", x.count(4), 0);
    }

    /** A cell is seen by what is read: a turn of it, or a bad one. */
    private static void cell(int lane, int v, int turns) {
        ButterChurn x = Due.told("cow 9 50;");
        x.sheet(2, lane, 2);
        x.lay(2, 0, v);
        x.lay(2, 1, 1);
        Due.is("read of " + v + " in lane " + lane, x.read(2, lane, 0, 1), turns > 0 ? 1 : -20);
        Due.is("turns of " + v + " in lane " + lane, x.now(4), turns);
    }

    private static void lowestBits() {
        cell(0, 127, 127);
        cell(0, 128, 0);
        cell(0, 256, 0);
        cell(0, 257, 1);
        cell(0, 400, 0);
        cell(0, 400 - 512, 0);
        cell(0, -255, 1);
        cell(0, Integer.MAX_VALUE, 0);
        cell(0, Integer.MIN_VALUE + 5, 5);
        cell(1, 400, 400);
        cell(1, 401, 0);
        cell(1, 65536, 0);
        cell(1, 65536 + 7, 7);
        cell(1, 32768, 0);
        cell(1, -65535, 1);
        cell(2, 400, 400);
        cell(2, 65536 + 7, 0);
        cell(2, Integer.MIN_VALUE, 0);
    }

    private static ButterChurn sheeted(int lane, int... cells) {
        ButterChurn x = Due.told("cow 9 50;churn 400;");
        x.sheet(1, lane, cells.length);
        for (int i = 0; i < cells.length; i++) {
            x.lay(1, i, cells[i]);
        }
        return x;
    }

    private static void read(ButterChurn x, int lane, int f, int n, int came, int fault, int turns) {
        String call = "read(1, " + lane + ", " + f + ", " + n + ")";
        Due.is(call, x.read(1, lane, f, n), came);
        Due.is("torn() behind " + call, x.torn(), fault);
        Due.is("now(4) behind " + call, x.now(4), turns);
    }

    private static void readAll() {
        ButterChurn x = sheeted(0, 5, 3, 10, 9, 40, 1);
        read(x, 0, 0, 3, 3, 0, 55);
        ButterChurn turned = Due.told("cow 9 50;churn 400;");
        turned.turn(5, 3);
        turned.turn(10, 9);
        turned.turn(40, 1);
        same(x, all(turned));
        // From cell 3 on pairs are others.
        read(sheeted(0, 5, 3, 10, 9, 4, 1), 0, 3, 1, 1, 0, 9);
        read(sheeted(0, 5, 3, 10, 9, 4, 1), 0, 4, 1, 1, 0, 4);
        int[] most = new int[40];
        for (int i = 0; i < 40; i++) {
            most[i] = i % 2 == 0 ? 400 : 9;
        }
        read(sheeted(1, most), 1, 0, 20, 20, 0, 8000);
        // It swells in the midst of it: then too the turns are done.
        ButterChurn swells = Due.told("cow 9 50;churn 10;");
        swells.sheet(1, 0, 4);
        for (int i = 0; i < 4; i++) {
            swells.lay(1, i, 9);
        }
        read(swells, 0, 0, 2, 2, 0, 18);
        Due.is("now(9)", swells.now(9), 2);
    }

    private static void refusedByTheMachine() {
        // Out of the row: what was whole ahead is done.
        read(sheeted(0, 5, 3, 10, 9), 0, 0, 3, 2, 2, 15);
        read(sheeted(0, 5, 3, 10), 0, 0, 2, 1, 2, 5);
        read(sheeted(0, 5, 3, 9), 0, 1, 2, 1, 2, 3);
        read(sheeted(0, 5, 3, 10), 0, 2, 1, 0, 2, 0);
        read(sheeted(0, 5, 3), 0, 2, 1, 0, 2, 0);
        read(sheeted(0, 5, 3, 10, 9), 0, -1, 2, 0, 2, 0);
        read(sheeted(0, 5, 3, 10, 9), 0, -2, 2, 0, 2, 0);
        read(sheeted(0, 5, 3), 0, Integer.MAX_VALUE, 20, 0, 2, 0);
        read(sheeted(0, 5, 3), 0, Integer.MIN_VALUE, 20, 0, 2, 0);
        read(sheeted(0), 0, 0, 1, 0, 2, 0);
        // Another lane; nothing, which is of no lane.
        read(sheeted(0, 5, 3), 1, 0, 1, 0, 3, 0);
        read(sheeted(0, 5, 3), 2, 0, 1, 0, 3, 0);
        read(sheeted(2, 5, 3), 0, 9, 1, 0, 3, 0);
        ButterChurn x = new ButterChurn();
        read(x, 2, 0, 1, 0, 1, 0);
        read(x, 2, -1, 20, 0, 1, 0);
        // Of none nothing is asked.
        read(x, 1, 0, 0, 0, 0, 0);
        read(x, 1, -7, 0, 0, 0, 0);
        read(sheeted(0, 5, 3), 2, 99, 0, 0, 0, 0);
        // A bad turn behind the machine's fault is not met.
        read(sheeted(0, 5, 3, 0), 0, 0, 2, 1, 2, 5);
    }

    private static void badTurns() {
        ButterChurn x = sheeted(1, 5, 3, 10, 9, 0, 4, 401, 4, 1, 0, 1, 10, -1, 2);
        int[][] due = {{0, 3, -22}, {2, 2, -21}, {4, 1, -20}, {6, 1, -20}, {8, 1, -20}, {10, 1, -20},
            {12, 1, -20}, {0, 7, -22}, {0, 9, -22}, {7, 1, 1}};
        for (int[] a : due) {
            int before = x.now(4);
            Due.is("read(1, 1, " + a[0] + ", " + a[1] + ")", x.read(1, 1, a[0], a[1]), a[2]);
            Due.is("turns done", x.now(4) - before, a[2] > 0 ? 4 : 0);
        }
        int[][] bad = {{-1, 1, 0, 1}, {4, 1, 0, 1}, {1, -1, 0, 1}, {1, 3, 0, 1}, {1, 1, 0, -1}, {1, 1, 0, 21},
            {-1, 1, 0, 0}, {1, 3, 0, 0}};
        for (int[] a : bad) {
            Due.is("bad read", x.read(a[0], a[1], a[2], a[3]), ButterChurn.BAD);
        }
        int[] last = new int[40];
        for (int i = 0; i < 40; i++) {
            last[i] = i < 38 ? 1 : 10;
        }
        Due.is("the 20th turn is bad", sheeted(0, last).read(1, 0, 0, 20), -39);
    }

    private static void tornStays() {
        ButterChurn x = sheeted(0, 5, 3, 0, 9);
        read(x, 1, 0, 1, 0, 3, 0);
        Due.is("read with a bad turn", x.read(1, 0, 0, 2), -21);
        Due.is("torn() behind it", x.torn(), 3);
        Due.is("bad read", x.read(1, 0, 0, 21), ButterChurn.BAD);
        Due.is("torn() behind it", x.torn(), 3);
        Due.feed(x, "cow 1 1;");
        x.dairy();
        Due.is("torn() behind dairy()", x.torn(), 3);
        Due.is("lay on the sheet that stayed", x.lay(1, 2, 4), 1);
        Due.is("torn() behind lay()", x.torn(), 3);
        read(x, 0, 0, 2, 2, 0, 9);
        // A sheet made anew has cells 0, of another lane.
        x.sheet(1, 2, 4);
        Due.is("read of cells 0", x.read(1, 2, 0, 1), -20);
        x.lay(1, 1, 3);
        Due.is("read of a cell 0 and a pace", x.read(1, 2, 0, 1), -20);
        x.lay(1, 0, 3);
        x.sheet(1, 2, 4);
        x.lay(1, 1, 3);
        Due.is("read of a cell 0, made anew, and a pace", x.read(1, 2, 0, 1), -20);
    }

    private static void counted() {
        ButterChurn x = Due.told("cow 1 1;cow 1 1;cow 1 1;");
        x.saw(0, 0);
        x.keep(1);
        x.feed(0);
        x.sheet(0, 2, 17);
        x.sheet(1, 2, 20);
        int[] due = {3, 1, 1, 8, 17};
        for (int what = 0; what < due.length; what++) {
            Due.is("count(" + what + ")", x.count(what), due[what]);
        }
        int[] bad = {-1, 5, Integer.MAX_VALUE, Integer.MIN_VALUE};
        for (int what : bad) {
            Due.is("count(" + what + ")", x.count(what), ButterChurn.BAD);
        }
        Due.is("count(4) of a new object", new ButterChurn().count(4), NONE);
    }
}
