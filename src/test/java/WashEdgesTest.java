/** Promises 24 to 28: each sentence that names a boundary case, by itself. */
public final class WashEdgesTest {
    private static final int NONE = ButterChurn.NONE;
    private static final int MIN = Integer.MIN_VALUE, MAX = Integer.MAX_VALUE;

    private WashEdgesTest() {
    }

    public static void main(String[] args) {
        washMilk();
        washWater();
        washTimes();
        washWhat();
        washLowestTerms();
        washMost();
        washesMilkAndWater();
        washesShare();
        washesNoMore();
        washesFirst();
        washesLast();
        washesNone();
        splitBounds();
        splitEnds();
        splitLeast();
        workedValue();
        workedPasses();
        workedClass();
        workedFigures();
        workedAtOnce();
        workedLowest();
        keepsBounds();
        keepsNone();
        keepsGreatest();
        keepsBehindPasses();
        nothingChanges();
        Due.end("WashEdgesTest");
    }

    private static void wash(int m, int w, int k, long over, long under) {
        ButterChurn x = new ButterChurn();
        String call = "wash(" + m + ", " + w + ", " + k;
        Due.is(call + ", 0)", x.wash(m, w, k, 0), over);
        Due.is(call + ", 1)", x.wash(m, w, k, 1), under);
    }

    // ---- promise 24

    private static void washMilk() {
        Due.sentence("24: of milk m (1 to 99): BAD");
        Due.bad("wash", x -> x.wash(0, 5, 1, 0), x -> x.wash(100, 5, 1, 0), x -> x.wash(-1, 5, 1, 0),
                x -> x.wash(0, 5, 0, 1), x -> x.wash(0, 0, 0, 0), x -> x.wash(MAX, 5, 1, 0),
                x -> x.wash(MIN, 5, 1, 0));
        wash(1, 5, 1, 1, 6);
        wash(99, 5, 1, 9801, 104);
        wash(1, 0, 0, 1, 1);
        wash(99, 0, 0, 99, 1);
    }

    private static void washWater() {
        Due.sentence("24: with water w (0 to 99) each: BAD");
        Due.bad("wash", x -> x.wash(5, -1, 1, 0), x -> x.wash(5, 100, 1, 0), x -> x.wash(5, -5, 1, 0),
                x -> x.wash(5, -1, 0, 0), x -> x.wash(5, 100, 0, 1), x -> x.wash(5, MAX, 1, 0),
                x -> x.wash(5, MIN, 1, 0));
        for (int k = 0; k <= 5; k++) {
            wash(7, 0, k, 7, 1);
        }
        wash(1, 99, 1, 1, 100);
        wash(5, 99, 1, 25, 104);
        wash(1, 1, 1, 1, 2);
    }

    private static void washTimes() {
        Due.sentence("24: behind k WASHES (0 to 5): BAD");
        Due.bad("wash", x -> x.wash(5, 5, -1, 0), x -> x.wash(5, 5, 6, 0), x -> x.wash(5, 0, 6, 1),
                x -> x.wash(5, 5, MAX, 0), x -> x.wash(5, 5, MIN, 0));
        long under = 1;
        for (int k = 0; k <= 5; k++) {
            wash(1, 2, k, 1, under);
            under *= 3;
        }
        wash(12, 7, 0, 12, 1);
    }

    private static void washWhat() {
        Due.sentence("24: how much stays: 0, 1; BAD");
        Due.bad("wash", x -> x.wash(5, 5, 1, -1), x -> x.wash(5, 5, 1, 2), x -> x.wash(5, 5, 1, MAX),
                x -> x.wash(5, 5, 1, MIN));
        wash(5, 5, 1, 5, 2);
    }

    private static void washLowestTerms() {
        Due.sentence("24: fractions are in lowest terms, first the numerator, then the denominator");
        wash(12, 4, 1, 9, 1);
        wash(12, 4, 2, 27, 4);
        wash(2, 2, 1, 1, 1);
        wash(2, 2, 2, 1, 2);
        wash(10, 5, 5, 320, 243);
        wash(64, 64, 5, 2, 1);
        wash(97, 98, 1, 9409, 195);
    }

    private static void washMost() {
        Due.sentence("24: the greatest numbers");
        wash(99, 98, 5, 941_480_149_401L, 296_709_280_757L);
        wash(97, 99, 5, 832_972_004_929L, 289_254_654_976L);
        wash(99, 99, 5, 99, 32);
        wash(1, 99, 5, 1, 10_000_000_000L);
        wash(99, 1, 5, 941_480_149_401L, 10_000_000_000L);
    }

    // ---- promise 25

    private static void washes(int m, int w, int a, int b, int want) {
        String call = "washes(" + m + ", " + w + ", " + a + ", " + b + ")";
        Due.is(call, new ButterChurn().washes(m, w, a, b), want);
    }

    private static void washesMilkAndWater() {
        Due.sentence("25: of milk m (1 to 99), water (0 to 99): BAD");
        Due.bad("washes", x -> x.washes(0, 5, 1, 1), x -> x.washes(100, 5, 1, 1), x -> x.washes(-1, 5, 1, 1),
                x -> x.washes(5, -1, 1, 1), x -> x.washes(5, 100, 1, 1), x -> x.washes(5, -1, 99, 1),
                x -> x.washes(MAX, 5, 1, 1), x -> x.washes(5, MIN, 1, 1), x -> x.washes(0, 0, 99, 1));
        washes(1, 0, 1, 1, 0);
        washes(99, 99, 99, 1, 0);
        washes(99, 99, 50, 1, 1);
        washes(1, 99, 1, 99, 1);
        washes(99, 0, 99, 1, 0);
    }

    private static void washesShare() {
        Due.sentence("25: a by b (0 to 99, 1 to 99): BAD");
        Due.bad("washes", x -> x.washes(5, 5, -1, 1), x -> x.washes(5, 5, 100, 1), x -> x.washes(5, 5, 1, 0),
                x -> x.washes(5, 5, 0, 0), x -> x.washes(5, 5, 1, 100), x -> x.washes(5, 5, 1, -1),
                x -> x.washes(5, 5, MAX, 1), x -> x.washes(5, 5, 1, MIN), x -> x.washes(5, 5, 100, 99));
        washes(5, 5, 99, 1, 0);
        washes(5, 5, 0, 1, NONE);
        washes(5, 5, 0, 99, NONE);
        washes(1, 1, 99, 99, 0);
        washes(1, 1, 98, 99, 1);
        washes(5, 5, 99, 99, 3);
    }

    private static void washesNoMore() {
        Due.sentence("25: no more than a by b stays");
        // 12, 9, 27 by 4, 81 by 16, 243 by 64, 729 by 256.
        washes(12, 4, 12, 1, 0);
        washes(12, 4, 11, 1, 1);
        washes(12, 4, 9, 1, 1);
        washes(12, 4, 89, 10, 2);
        washes(12, 4, 27, 4, 2);
        washes(12, 4, 26, 4, 3);
        washes(12, 4, 54, 8, 2);
        washes(12, 4, 81, 16, 3);
        washes(12, 4, 80, 16, 4);
    }

    private static void washesFirst() {
        Due.sentence("25: the fewest WASHES (0 to 5): 0");
        for (int m = 1; m <= 99; m += 7) {
            washes(m, 50, m, 1, 0);
            washes(m, 50, 99, 1, 0);
            washes(m, 99, m - 1, 1, m == 1 ? NONE : 1);
        }
    }

    private static void washesLast() {
        Due.sentence("25: the fewest WASHES (0 to 5): 5; NONE");
        washes(99, 99, 99, 32, 5);
        washes(99, 99, 98, 32, NONE);
        washes(99, 99, 99, 31, 5);
        washes(99, 99, 99, 33, NONE);
        // 64, 32, 16, 8, 4, 2, and 1 by a sixth.
        washes(64, 64, 4, 1, 4);
        washes(64, 64, 3, 1, 5);
        washes(64, 64, 2, 1, 5);
        washes(64, 64, 1, 1, NONE);
        washes(12, 4, 3, 1, 5);
        washes(12, 4, 2, 1, NONE);
    }

    private static void washesNone() {
        Due.sentence("25: NONE");
        washes(1, 99, 0, 99, NONE);
        washes(5, 0, 4, 1, NONE);
        washes(5, 0, 5, 1, 0);
        washes(99, 1, 1, 99, NONE);
    }

    // ---- promise 26

    private static void splitBounds() {
        Due.sentence("26: water w (0 to 99), milk (1 to 99): BAD");
        Due.bad("split", x -> x.split(5, -1), x -> x.split(5, 100), x -> x.split(0, 5), x -> x.split(100, 5),
                x -> x.split(-1, 5), x -> x.split(0, 0), x -> x.split(MAX, 5), x -> x.split(MIN, 5),
                x -> x.split(5, MAX), x -> x.split(5, MIN));
    }

    private static void split(int m, int w, int want) {
        Due.is("split(" + m + ", " + w + ")", new ButterChurn().split(m, w), want);
    }

    private static void splitEnds() {
        Due.sentence("26: no water, all of it, the least and the most milk");
        split(1, 0, 0);
        split(99, 0, 0);
        split(1, 99, 49);
        split(99, 99, 49);
        split(1, 98, 49);
        split(99, 1, 0);
    }

    private static void splitLeast() {
        Due.sentence("26: so that least milk stays, of several the least");
        int[] milks = {1, 2, 50, 99};
        for (int m : milks) {
            for (int w = 0; w <= 99; w++) {
                // Both halves alike leave least; of an odd water the less comes first.
                split(m, w, (w - w % 2) / 2);
            }
        }
    }

    // ---- promise 27

    private static void workedValue() {
        Due.sentence("27: v (0 to 9999999): BAD");
        Due.bad("worked", x -> x.worked(-1, 0, 0), x -> x.worked(10000000, 0, 0), x -> x.worked(-1, 6, 6),
                x -> x.worked(MAX, 0, 0), x -> x.worked(MIN, 0, 0));
        for (int k = 0; k <= 6; k++) {
            worked(0, 0, k, 0);
            worked(0, 6, k, 0);
            worked(9999999, 0, k, 9);
        }
    }

    private static void worked(int v, int p, int k, int want) {
        Due.is("worked(" + v + ", " + p + ", " + k + ")", new ButterChurn().worked(v, p, k), want);
    }

    private static void workedPasses() {
        Due.sentence("27: behind p passes (0 to 6): BAD");
        Due.bad("worked", x -> x.worked(1, -1, 0), x -> x.worked(1, 7, 0), x -> x.worked(1, MAX, 0),
                x -> x.worked(1, MIN, 0));
        int[] zero = {9, 27, 63, 135, 279, 567, 1143};
        for (int p = 0; p <= 6; p++) {
            worked(9999999, p, 0, zero[p]);
            worked(9999999, p, 6 - p, p == 6 ? 1143 : 9 << p);
            worked(9999999, p, 6, p == 0 ? 9 : 0);
        }
        worked(1000000, 6, 0, 64);
        worked(1000000, 6, 1, 0);
        worked(1000000, 5, 1, 32);
        worked(1000000, 5, 0, 0);
    }

    private static void workedClass() {
        Due.sentence("27: how many of CLASS k: BAD");
        Due.bad("worked", x -> x.worked(1, 0, -1), x -> x.worked(1, 0, 7), x -> x.worked(1, 6, 7),
                x -> x.worked(1, 0, MAX), x -> x.worked(1, 0, MIN));
        worked(2000001, 0, 0, 1);
        worked(2000001, 0, 6, 2);
    }

    private static void workedFigures() {
        Due.sentence("27: in seven figures of v (CLASS 0 the last figure)");
        for (int k = 0; k <= 6; k++) {
            worked(7654321, 0, k, k + 1);
            worked(1234567, 0, k, 7 - k);
            worked(9, 0, k, k == 0 ? 9 : 0);
            worked(90, 0, k, k == 1 ? 9 : 0);
        }
    }

    private static void workedAtOnce() {
        Due.sentence("2: a pass makes of each of CLASS k above 0 two of CLASS k less 1");
        int[] once = {1 + 4, 6, 8, 10, 12, 14, 0};
        int[] twice = {1 + 4 + 12, 16, 20, 24, 28, 0, 0};
        for (int k = 0; k <= 6; k++) {
            worked(7654321, 1, k, once[k]);
            worked(7654321, 2, k, twice[k]);
        }
    }

    private static void workedLowest() {
        Due.sentence("27: those of CLASS 0 stay");
        for (int p = 0; p <= 6; p++) {
            worked(9, p, 0, 9);
            worked(9, p, 1, 0);
            worked(13, p, 0, p == 0 ? 3 : 5);
        }
    }

    // ---- promise 28

    private static void keeps(int v, int p, int want) {
        Due.is("keeps(" + v + ", " + p + ")", new ButterChurn().keeps(v, p), want);
    }

    private static void keepsBounds() {
        Due.sentence("28: v (0 to 9999999), p (0 to 6): BAD");
        Due.bad("keeps", x -> x.keeps(-1, 0), x -> x.keeps(10000000, 0), x -> x.keeps(1, -1), x -> x.keeps(1, 7),
                x -> x.keeps(0, 7), x -> x.keeps(MAX, 0), x -> x.keeps(MIN, 0), x -> x.keeps(1, MAX),
                x -> x.keeps(1, MIN));
        keeps(9999999, 0, 1);
        keeps(9999999, 6, 64);
    }

    private static void keepsNone() {
        Due.sentence("28: (64, if there are none)");
        for (int p = 0; p <= 6; p++) {
            keeps(0, p, 64);
        }
    }

    private static void keepsGreatest() {
        Due.sentence("28: 64 by 2 to the power of the greatest CLASS of which there is a drop");
        int v = 1;
        for (int k = 0; k <= 6; k++) {
            keeps(v, 0, 64 >> k);
            keeps(9 * v, 0, 64 >> k);
            keeps(v + v / 10, 0, 64 >> k);
            keeps(10 * v - 1, 0, 64 >> k);
            v *= 10;
        }
        keeps(1000001, 0, 1);
        keeps(100001, 0, 2);
    }

    private static void keepsBehindPasses() {
        Due.sentence("28: behind p passes");
        int v = 1;
        for (int k = 0; k <= 6; k++) {
            for (int p = 0; p <= 6; p++) {
                keeps(v, p, 64 >> Math.max(0, k - p));
            }
            v *= 10;
        }
        keeps(9000001, 3, 8);
    }

    private static void nothingChanges() {
        Due.sentence("24 to 28: what is asked and what is refused change nothing");
        ButterChurn x = Look.full();
        x.wash(5, 5, 5, 0);
        x.wash(0, 5, 5, 0);
        x.washes(5, 5, 5, 1);
        x.washes(5, 5, 5, 0);
        x.split(5, 5);
        x.split(5, 100);
        x.worked(9999999, 3, 2);
        x.worked(9999999, 3, 7);
        x.keeps(9999999, 3);
        x.keeps(9999999, 7);
        Look.same("behind washing and working", x, Look.full());
        // One call leaves nothing to the next, either.
        Due.is("worked(0, 0, 3) behind others", x.worked(0, 0, 3), 0);
    }
}
