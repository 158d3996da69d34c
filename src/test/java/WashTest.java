/** Promises 24 to 28: washing and working. */
public final class WashTest {
    private static final ButterChurn X = new ButterChurn();

    private WashTest() {
    }

    public static void main(String[] args) {
        washed();
        fewest();
        split();
        worked();
        kept();
        Due.end("WashTest");
    }

    private static void wash(int m, int w, int k, long over, long under) {
        String call = "wash(" + m + ", " + w + ", " + k;
        Due.is(call + ", 0)", X.wash(m, w, k, 0), over);
        Due.is(call + ", 1)", X.wash(m, w, k, 1), under);
    }

    private static void washed() {
        wash(12, 7, 0, 12, 1);
        wash(12, 0, 5, 12, 1);
        wash(12, 4, 1, 9, 1);
        wash(12, 4, 2, 27, 4);
        wash(1, 99, 5, 1, 10_000_000_000L);
        wash(2, 98, 5, 1, 156_250_000);
        wash(97, 99, 5, 832_972_004_929L, 289_254_654_976L);
        wash(99, 98, 5, 941_480_149_401L, 296_709_280_757L);
        int[][] bad = {{0, 5, 1, 0}, {100, 5, 1, 0}, {-1, 5, 1, 0}, {5, -1, 1, 0}, {5, 100, 1, 0},
            {5, 5, -1, 0}, {5, 5, 6, 0}, {5, 5, 1, -1}, {5, 5, 1, 2}, {Integer.MAX_VALUE, 5, 1, 0}};
        for (int[] a : bad) {
            Due.is("bad wash", X.wash(a[0], a[1], a[2], a[3]), ButterChurn.BAD);
        }
    }

    private static void fewest() {
        // 12, 9, 27 by 4, 81 by 16, 243 by 64, 729 by 256.
        Due.is("washes(12, 4, 12, 1)", X.washes(12, 4, 12, 1), 0);
        Due.is("washes(12, 4, 11, 1)", X.washes(12, 4, 11, 1), 1);
        Due.is("washes(12, 4, 9, 1)", X.washes(12, 4, 9, 1), 1);
        Due.is("washes(12, 4, 27, 4)", X.washes(12, 4, 27, 4), 2);
        Due.is("washes(12, 4, 26, 4)", X.washes(12, 4, 26, 4), 3);
        Due.is("washes(12, 4, 81, 16)", X.washes(12, 4, 81, 16), 3);
        Due.is("washes(12, 4, 3, 1)", X.washes(12, 4, 3, 1), 5);
        Due.is("washes(12, 4, 2, 1)", X.washes(12, 4, 2, 1), ButterChurn.NONE);
        Due.is("washes(1, 99, 0, 99)", X.washes(1, 99, 0, 99), ButterChurn.NONE);
        Due.is("washes(99, 0, 99, 1)", X.washes(99, 0, 99, 1), 0);
        Due.is("washes(99, 0, 98, 1)", X.washes(99, 0, 98, 1), ButterChurn.NONE);
        Due.is("washes(99, 99, 99, 32)", X.washes(99, 99, 99, 32), 5);
        Due.is("washes(99, 99, 98, 32)", X.washes(99, 99, 98, 32), ButterChurn.NONE);
        int[][] bad = {{0, 5, 1, 1}, {100, 5, 1, 1}, {5, -1, 1, 1}, {5, 100, 1, 1}, {5, 5, -1, 1},
            {5, 5, 100, 1}, {5, 5, 1, 0}, {5, 5, 1, 100}, {5, 5, 1, -1}};
        for (int[] a : bad) {
            Due.is("bad washes", X.washes(a[0], a[1], a[2], a[3]), ButterChurn.BAD);
        }
    }

    private static void split() {
        for (int w = 0; w <= 99; w++) {
            Due.is("split(1, " + w + ")", X.split(1, w), w / 2);
            Due.is("split(99, " + w + ")", X.split(99, w), w / 2);
        }
        int[][] bad = {{0, 5}, {100, 5}, {5, -1}, {5, 100}};
        for (int[] a : bad) {
            Due.is("bad split", X.split(a[0], a[1]), ButterChurn.BAD);
        }
    }

    private static void work(int v, int p, int... want) {
        for (int k = 0; k < want.length; k++) {
            Due.is("worked(" + v + ", " + p + ", " + k + ")", X.worked(v, p, k), want[k]);
        }
    }

    private static void worked() {
        work(7654321, 0, 1, 2, 3, 4, 5, 6, 7);
        work(7654321, 1, 1 + 4, 6, 8, 10, 12, 14, 0);
        work(7654321, 2, 1 + 4 + 12, 16, 20, 24, 28, 0, 0);
        work(7654321, 6, 1 + 4 + 12 + 32 + 80 + 192 + 448, 0, 0, 0, 0, 0, 0);
        work(9999999, 6, 9 * 127, 0);
        work(9999999, 5, 9 * 63, 9 * 32, 0);
        work(30, 1, 6, 0, 0);
        work(5, 6, 5, 0, 0);
        int[][] bad = {{-1, 0, 0}, {10000000, 0, 0}, {1, -1, 0}, {1, 7, 0}, {1, 0, -1}, {1, 0, 7}};
        for (int[] a : bad) {
            Due.is("bad worked", X.worked(a[0], a[1], a[2]), ButterChurn.BAD);
        }
    }

    private static void kept() {
        int figure = 1;
        for (int k = 0; k <= 6; k++) {
            for (int p = 0; p <= 6; p++) {
                int days = 64 >> Math.max(0, k - p);
                Due.is("keeps(" + figure + ", " + p + ")", X.keeps(figure, p), days);
                Due.is("keeps(" + (figure * 9) + ", " + p + ")", X.keeps(figure * 9, p), days);
            }
            figure *= 10;
        }
        Due.is("keeps(0, 3)", X.keeps(0, 3), 64);
        Due.is("keeps(100200, 1)", X.keeps(100200, 1), 4);
        int[][] bad = {{-1, 0}, {10000000, 0}, {1, -1}, {1, 7}};
        for (int[] a : bad) {
            Due.is("bad keeps", X.keeps(a[0], a[1]), ButterChurn.BAD);
        }
    }
}
