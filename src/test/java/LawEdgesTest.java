/** Promises 29 to 31: each sentence that names a boundary case, by itself. */
public final class LawEdgesTest {
    private static final int MIN = Integer.MIN_VALUE, MAX = Integer.MAX_VALUE;

    private LawEdgesTest() {
    }

    public static void main(String[] args) {
        rodShown();
        rodChances();
        rodNotAllZero();
        rodWhat();
        rodAboveTheLaw();
        rodLessWhatItIsOff();
        rodZeroAndOne();
        rodLowestTerms();
        nearChances();
        nearShare();
        nearNoMore();
        nearLeast();
        nearGreatest();
        witchDays();
        witchBadDays();
        witchChance();
        witchWhat();
        witchNone();
        witchSure();
        witchOrMore();
        witchLowestTerms();
        witchMost();
        nothingChanges();
        Due.end("LawEdgesTest");
    }

    private static void rod(int r, int a, int b, int c, int over, int under) {
        ButterChurn x = new ButterChurn();
        String call = "rod(" + r + ", " + a + ", " + b + ", " + c;
        Due.is(call + ", 0)", x.rod(r, a, b, c, 0), over);
        Due.is(call + ", 1)", x.rod(r, a, b, c, 1), under);
    }

    // ---- promise 29

    private static void rodShown() {
        Due.sentence("29: water r (0 to 30): BAD");
        Due.bad("rod", x -> x.rod(-1, 1, 1, 1, 0), x -> x.rod(31, 1, 1, 1, 0), x -> x.rod(MAX, 1, 1, 1, 0),
                x -> x.rod(MIN, 1, 1, 1, 1), x -> x.rod(31, 1, 0, 0, 1));
        rod(0, 1, 1, 1, 0, 1);
        rod(30, 1, 1, 1, 1, 1);
    }

    private static void rodChances() {
        Due.sentence("29: chances a, b, c (0 to 9): BAD");
        Due.bad("rod", x -> x.rod(5, -1, 1, 1, 0), x -> x.rod(5, 10, 1, 1, 0), x -> x.rod(5, 1, -1, 1, 0),
                x -> x.rod(5, 1, 10, 1, 0), x -> x.rod(5, 1, 1, -1, 0), x -> x.rod(5, 1, 1, 10, 0),
                x -> x.rod(5, MAX, 1, 1, 0), x -> x.rod(5, 1, MIN, 1, 0), x -> x.rod(5, -1, 1, 0, 0),
                x -> x.rod(5, MIN, MIN, 1, 0), x -> x.rod(5, 1, -1, 0, 1));
        rod(17, 9, 9, 9, 2, 3);
        rod(16, 9, 1, 1, 9, 11);
        rod(17, 1, 9, 1, 10, 11);
        rod(17, 1, 1, 9, 2, 11);
    }

    private static void rodNotAllZero() {
        Due.sentence("29: not all 0: BAD");
        Due.bad("rod", x -> x.rod(5, 0, 0, 0, 0), x -> x.rod(17, 0, 0, 0, 1), x -> x.rod(0, 0, 0, 0, 0));
        rod(16, 1, 0, 0, 1, 1);
        rod(17, 0, 1, 0, 1, 1);
        rod(18, 0, 0, 1, 1, 1);
    }

    private static void rodWhat() {
        Due.sentence("29: 0, 1; BAD");
        Due.bad("rod", x -> x.rod(5, 1, 1, 1, -1), x -> x.rod(5, 1, 1, 1, 2), x -> x.rod(5, 1, 1, 1, MAX),
                x -> x.rod(5, 1, 1, 1, MIN));
        rod(17, 1, 2, 4, 3, 7);
    }

    private static void rodAboveTheLaw() {
        Due.sentence("29: that the water is above THE LAW: 16");
        rod(15, 0, 1, 0, 0, 1);
        rod(16, 0, 1, 0, 0, 1);
        rod(17, 0, 1, 0, 1, 1);
        rod(18, 0, 1, 0, 1, 1);
    }

    private static void rodLessWhatItIsOff() {
        Due.sentence("29: the water is what it shows, less what it is off: by -1, 0, 1");
        int[] offMinus = {0, 0, 1, 1, 1, 1};
        int[] offPlus = {0, 0, 0, 0, 1, 1};
        for (int r = 14; r <= 19; r++) {
            rod(r, 1, 0, 0, offMinus[r - 14], 1);
            rod(r, 0, 0, 1, offPlus[r - 14], 1);
        }
        rod(16, 2, 3, 4, 2, 9);
        rod(17, 2, 3, 4, 5, 9);
    }

    private static void rodZeroAndOne() {
        Due.sentence("29: 0 is 0 by 1; lowest terms of all");
        rod(15, 9, 9, 9, 0, 1);
        rod(16, 0, 9, 9, 0, 1);
        rod(17, 0, 0, 9, 0, 1);
        rod(18, 9, 9, 9, 1, 1);
        rod(17, 9, 9, 0, 1, 1);
    }

    private static void rodLowestTerms() {
        Due.sentence("29: fractions are in lowest terms");
        rod(16, 3, 3, 3, 1, 3);
        rod(16, 4, 2, 2, 1, 2);
        rod(17, 3, 3, 2, 3, 4);
        rod(16, 6, 9, 0, 2, 5);
    }

    // ---- promise 30

    private static void near(int a, int b, int c, int x, int y, int want) {
        String call = "near(" + a + ", " + b + ", " + c + ", " + x + ", " + y + ")";
        Due.is(call, new ButterChurn().near(a, b, c, x, y), want);
    }

    private static void nearChances() {
        Due.sentence("30: chances (0 to 9, not all 0): BAD");
        Due.bad("near", x -> x.near(-1, 1, 1, 1, 1), x -> x.near(10, 1, 1, 1, 1), x -> x.near(1, -1, 1, 1, 1),
                x -> x.near(1, 10, 1, 1, 1), x -> x.near(1, 1, -1, 1, 1), x -> x.near(1, 1, 10, 1, 1),
                x -> x.near(0, 0, 0, 1, 1), x -> x.near(MAX, 1, 1, 1, 1), x -> x.near(1, MIN, 1, 1, 1),
                x -> x.near(0, 0, 0, 0, 1));
        near(9, 9, 9, 0, 1, 15);
        near(1, 0, 0, 0, 1, 15);
        near(0, 1, 0, 0, 1, 16);
        near(0, 0, 1, 0, 1, 17);
    }

    private static void nearShare() {
        Due.sentence("30: x by y (0 to 99, 1 to 99): BAD");
        Due.bad("near", x -> x.near(1, 1, 1, -1, 1), x -> x.near(1, 1, 1, 100, 1), x -> x.near(1, 1, 1, 1, 0),
                x -> x.near(1, 1, 1, 0, 0), x -> x.near(1, 1, 1, 1, 100), x -> x.near(1, 1, 1, 1, -1),
                x -> x.near(1, 1, 1, MAX, 1), x -> x.near(1, 1, 1, 1, MIN), x -> x.near(1, 1, 1, 100, 99));
        near(1, 1, 1, 0, 1, 15);
        near(1, 1, 1, 0, 99, 15);
        near(1, 1, 1, 99, 1, 30);
        near(1, 1, 1, 99, 99, 30);
        near(1, 1, 1, 98, 99, 17);
    }

    private static void nearNoMore() {
        Due.sentence("30: at which that is no more than x by y");
        // Above by 2 of 9 at 16, by 5 of 9 at 17, by all at 18.
        near(2, 3, 4, 2, 9, 16);
        near(2, 3, 4, 22, 99, 16);
        near(2, 3, 4, 21, 99, 15);
        near(2, 3, 4, 5, 9, 17);
        near(2, 3, 4, 55, 99, 17);
        near(2, 3, 4, 54, 99, 16);
        near(2, 3, 4, 1, 1, 30);
        near(2, 3, 4, 98, 99, 17);
    }

    private static void nearLeast() {
        Due.sentence("30: the greatest r: the least that it can be");
        near(9, 0, 0, 0, 1, 15);
        near(9, 9, 9, 1, 99, 15);
        near(1, 9, 9, 1, 19, 16);
        near(1, 9, 9, 1, 20, 15);
    }

    private static void nearGreatest() {
        Due.sentence("30: the greatest r (0 to 30): 30");
        near(9, 0, 0, 1, 1, 30);
        near(0, 0, 9, 1, 1, 30);
        near(0, 0, 9, 98, 99, 17);
        near(5, 5, 5, 99, 98, 30);
    }

    // ---- promise 31

    private static void witch(int n, int k, int a, int b, long over, long under) {
        ButterChurn x = new ButterChurn();
        String call = "witch(" + n + ", " + k + ", " + a + ", " + b;
        Due.is(call + ", 0)", x.witch(n, k, a, b, 0), over);
        Due.is(call + ", 1)", x.witch(n, k, a, b, 1), under);
    }

    private static void witchDays() {
        Due.sentence("31: of n days (1 to 12): BAD");
        Due.bad("witch", x -> x.witch(0, 0, 1, 2, 0), x -> x.witch(13, 0, 1, 2, 0), x -> x.witch(-1, -1, 1, 2, 0),
                x -> x.witch(-1, 0, 1, 2, 0), x -> x.witch(MAX, 0, 1, 2, 0), x -> x.witch(MIN, 0, 1, 2, 0),
                x -> x.witch(13, 13, 1, 2, 1));
        witch(1, 1, 1, 2, 1, 2);
        witch(12, 12, 1, 2, 1, 4096);
        witch(12, 1, 1, 2, 4095, 4096);
    }

    private static void witchBadDays() {
        Due.sentence("31: k or more (0 to n): BAD");
        Due.bad("witch", x -> x.witch(5, -1, 1, 2, 0), x -> x.witch(5, 6, 1, 2, 0), x -> x.witch(1, 2, 1, 2, 0),
                x -> x.witch(12, 13, 1, 2, 0), x -> x.witch(5, MAX, 1, 2, 0), x -> x.witch(5, MIN, 1, 2, 0));
        witch(5, 5, 1, 2, 1, 32);
        witch(5, 0, 1, 2, 1, 1);
        witch(1, 0, 1, 2, 1, 1);
    }

    private static void witchChance() {
        Due.sentence("31: each by a of b (0 to 9, 1 to 9; a no more than b): BAD");
        Due.bad("witch", x -> x.witch(5, 1, -1, 2, 0), x -> x.witch(5, 1, 3, 2, 0), x -> x.witch(5, 1, 0, 0, 0),
                x -> x.witch(5, 1, 1, 10, 0), x -> x.witch(5, 1, 10, 10, 0), x -> x.witch(5, 1, 10, 9, 0),
                x -> x.witch(5, 1, 1, 0, 0), x -> x.witch(5, 1, -1, -1, 0), x -> x.witch(5, 1, MIN, 1, 0),
                x -> x.witch(5, 1, 1, MAX, 0), x -> x.witch(5, 1, 9, 8, 1));
        witch(2, 1, 0, 1, 0, 1);
        witch(2, 2, 1, 1, 1, 1);
        witch(2, 2, 9, 9, 1, 1);
        witch(2, 2, 8, 9, 64, 81);
        witch(2, 2, 1, 9, 1, 81);
        witch(2, 2, 2, 2, 1, 1);
    }

    private static void witchWhat() {
        Due.sentence("31: 0, 1; BAD");
        Due.bad("witch", x -> x.witch(5, 1, 1, 2, -1), x -> x.witch(5, 1, 1, 2, 2), x -> x.witch(5, 1, 1, 2, MAX),
                x -> x.witch(5, 1, 1, 2, MIN));
        witch(2, 1, 1, 3, 5, 9);
    }

    private static void witchNone() {
        Due.sentence("31: 0 is 0 by 1: no day is bad");
        for (int n = 1; n <= 12; n++) {
            witch(n, 1, 0, 9, 0, 1);
            witch(n, n, 0, 7, 0, 1);
            witch(n, 0, 0, 9, 1, 1);
        }
    }

    private static void witchSure() {
        Due.sentence("31: each day is bad; none or more are");
        for (int n = 1; n <= 12; n++) {
            witch(n, n, 9, 9, 1, 1);
            witch(n, 0, 4, 9, 1, 1);
            witch(n, 1, 3, 3, 1, 1);
        }
    }

    private static void witchOrMore() {
        Due.sentence("31: that k or more are bad");
        int[] more = {32, 31, 26, 16, 6, 1};
        for (int k = 0; k <= 5; k++) {
            int both = gcd(more[k], 32);
            witch(5, k, 1, 2, more[k] / both, 32 / both);
        }
        int[] thirds = {81, 65, 33, 9, 1};
        for (int k = 0; k <= 4; k++) {
            int both = gcd(thirds[k], 81);
            witch(4, k, 1, 3, thirds[k] / both, 81 / both);
        }
    }

    private static int gcd(int a, int b) {
        return b == 0 ? a : gcd(b, a % b);
    }

    private static void witchLowestTerms() {
        Due.sentence("31: fractions are in lowest terms");
        witch(1, 1, 2, 6, 1, 3);
        witch(1, 1, 6, 9, 2, 3);
        witch(3, 2, 1, 2, 1, 2);
        witch(3, 3, 2, 4, 1, 8);
    }

    private static void witchMost() {
        Due.sentence("31: the greatest numbers");
        witch(12, 12, 1, 9, 1, 282_429_536_481L);
        witch(12, 1, 1, 9, 282_429_536_481L - 68_719_476_736L, 282_429_536_481L);
        witch(12, 12, 8, 9, 68_719_476_736L, 282_429_536_481L);
        witch(12, 11, 8, 9, 68_719_476_736L + 12 * 8_589_934_592L, 282_429_536_481L);
        witch(12, 1, 8, 9, 282_429_536_480L, 282_429_536_481L);
    }

    private static void nothingChanges() {
        Due.sentence("29 to 31: what is asked and what is refused change nothing");
        ButterChurn x = Look.full();
        x.rod(16, 1, 2, 3, 0);
        x.rod(16, 0, 0, 0, 0);
        x.near(1, 2, 3, 1, 2);
        x.near(1, 2, 3, 1, 0);
        x.witch(12, 5, 4, 9, 1);
        x.witch(13, 5, 4, 9, 1);
        Look.same("behind the law and chance", x, Look.full());
    }
}
