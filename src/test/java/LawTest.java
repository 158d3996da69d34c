/** Promises 29 to 31: the rod, how near one may go, bad days. */
public final class LawTest {
    private static final ButterChurn X = new ButterChurn();

    private LawTest() {
    }

    public static void main(String[] args) {
        rod();
        near();
        witch();
        Due.end("LawTest");
    }

    private static void rod(int r, int a, int b, int c, int over, int under) {
        String call = "rod(" + r + ", " + a + ", " + b + ", " + c;
        Due.is(call + ", 0)", X.rod(r, a, b, c, 0), over);
        Due.is(call + ", 1)", X.rod(r, a, b, c, 1), under);
    }

    private static void rod() {
        // Off by -1 it shows one less than there is.
        rod(15, 2, 3, 4, 0, 1);
        rod(16, 2, 3, 4, 2, 9);
        rod(17, 2, 3, 4, 5, 9);
        rod(18, 2, 3, 4, 1, 1);
        rod(16, 3, 3, 3, 1, 3);
        rod(17, 9, 9, 9, 2, 3);
        rod(0, 9, 9, 9, 0, 1);
        rod(16, 1, 2, 1, 1, 4);
        rod(16, 1, 2, 3, 1, 6);
        rod(16, 3, 2, 1, 1, 2);
        rod(30, 1, 0, 0, 1, 1);
        rod(16, 9, 0, 0, 1, 1);
        rod(17, 0, 0, 9, 0, 1);
        int[][] bad = {{-1, 1, 1, 1, 0}, {31, 1, 1, 1, 0}, {5, -1, 1, 1, 0}, {5, 10, 1, 1, 0},
            {5, 1, -1, 1, 0}, {5, 1, 10, 1, 0}, {5, 1, 1, -1, 0}, {5, 1, 1, 10, 0}, {5, 0, 0, 0, 0},
            {5, 1, 1, 1, -1}, {5, 1, 1, 1, 2}, {5, Integer.MIN_VALUE, Integer.MIN_VALUE, 1, 0}};
        for (int[] a : bad) {
            Due.is("bad rod", X.rod(a[0], a[1], a[2], a[3], a[4]), ButterChurn.BAD);
        }
    }

    private static void near() {
        Due.is("near(2, 3, 4, 0, 1)", X.near(2, 3, 4, 0, 1), 15);
        Due.is("near(2, 3, 4, 1, 5)", X.near(2, 3, 4, 1, 5), 15);
        Due.is("near(2, 3, 4, 2, 9)", X.near(2, 3, 4, 2, 9), 16);
        Due.is("near(2, 3, 4, 54, 99)", X.near(2, 3, 4, 54, 99), 16);
        Due.is("near(2, 3, 4, 55, 99)", X.near(2, 3, 4, 55, 99), 17);
        Due.is("near(2, 3, 4, 98, 99)", X.near(2, 3, 4, 98, 99), 17);
        Due.is("near(2, 3, 4, 99, 99)", X.near(2, 3, 4, 99, 99), 30);
        Due.is("near(2, 3, 4, 99, 1)", X.near(2, 3, 4, 99, 1), 30);
        Due.is("near(0, 0, 9, 0, 1)", X.near(0, 0, 9, 0, 1), 17);
        Due.is("near(0, 9, 0, 0, 1)", X.near(0, 9, 0, 0, 1), 16);
        int[][] bad = {{-1, 1, 1, 1, 1}, {10, 1, 1, 1, 1}, {1, -1, 1, 1, 1}, {1, 10, 1, 1, 1},
            {1, 1, -1, 1, 1}, {1, 1, 10, 1, 1}, {0, 0, 0, 1, 1}, {1, 1, 1, -1, 1}, {1, 1, 1, 100, 1},
            {1, 1, 1, 1, 0}, {1, 1, 1, 1, 100}};
        for (int[] a : bad) {
            Due.is("bad near", X.near(a[0], a[1], a[2], a[3], a[4]), ButterChurn.BAD);
        }
    }

    private static void witch(int n, int k, int a, int b, long over, long under) {
        String call = "witch(" + n + ", " + k + ", " + a + ", " + b;
        Due.is(call + ", 0)", X.witch(n, k, a, b, 0), over);
        Due.is(call + ", 1)", X.witch(n, k, a, b, 1), under);
    }

    private static void witch() {
        witch(1, 1, 2, 6, 1, 3);
        witch(2, 1, 1, 3, 5, 9);
        witch(3, 2, 1, 2, 1, 2);
        witch(4, 2, 1, 3, 11, 27);
        witch(12, 12, 1, 9, 1, 282_429_536_481L);
        witch(12, 1, 1, 9, 282_429_536_481L - 68_719_476_736L, 282_429_536_481L);
        witch(12, 0, 7, 9, 1, 1);
        witch(7, 0, 0, 1, 1, 1);
        witch(7, 1, 0, 9, 0, 1);
        witch(7, 7, 9, 9, 1, 1);
        int[][] bad = {{0, 0, 1, 2, 0}, {13, 0, 1, 2, 0}, {5, -1, 1, 2, 0}, {5, 6, 1, 2, 0},
            {5, 1, -1, 2, 0}, {5, 1, 3, 2, 0}, {5, 1, 0, 0, 0}, {5, 1, 1, 10, 0}, {5, 1, 10, 9, 0},
            {5, 1, 1, 2, -1}, {5, 1, 1, 2, 2}};
        for (int[] a : bad) {
            Due.is("bad witch", X.witch(a[0], a[1], a[2], a[3], a[4]), ButterChurn.BAD);
        }
    }
}
