/** Promises 9 to 14: the churn is filled, turned, warmed, halved, and what is asked of it. */
public final class ChurnTest {
    private ChurnTest() {
    }

    public static void main(String[] args) {
        filled();
        hardness();
        joined();
        come();
        turnedOn();
        swollen();
        heated();
        airAtMost();
        halved();
        outcomes();
        wrong();
        Due.end("ChurnTest");
    }

    private static void now(ButterChurn x, int what, int want) {
        Due.is("now(" + what + ")", x.now(what), want);
    }

    private static void drops(ButterChurn x, int... want) {
        for (int k = 0; k < want.length; k++) {
            Due.is("drops(" + k + ")", x.drops(k), want[k]);
        }
    }

    private static void filled() {
        ButterChurn x = Due.told("cow 10 50;cow 20 81;cow 5 0;drops 9 8 7 6;");
        x.turn(7, 9);
        Due.is("fill(5, 77)", x.fill(5, 77), 15);
        int fat = 15 * (9 + 16 + 28 + 48);
        // HARD is 500 by 15, divided down: 33; and 53 times 10 by 100 less than the base: 6 more.
        int[] due = {15, 77, 39, 0, 0, ButterChurn.NONE, fat, fat, 0, 0};
        for (int what = 0; what < due.length; what++) {
            now(x, what, due[what]);
        }
        drops(x, 135, 120, 105, 90, 0, 0, 0);
        Due.is("fill(0, 400)", x.fill(0, 400), 0);
        now(x, 1, 400);
        now(x, 2, 0);
        now(x, 7, 0);
        drops(x, 0, 0, 0, 0, 0, 0, 0);
        Due.is("fill(7, 0)", x.fill(7, 0), 35);
        Due.is("fill(8, 0)", x.fill(8, 0), ButterChurn.BAD);
        Due.is("fill(-1, 0)", x.fill(-1, 0), ButterChurn.BAD);
        Due.is("fill(7, -1)", x.fill(7, -1), ButterChurn.BAD);
        Due.is("fill(7, 401)", x.fill(7, 401), ButterChurn.BAD);
        now(x, 0, 35);
        Due.is("fill(256, 0) of eight cows", Due.told("cow 1 1;".repeat(8)).fill(256, 0), ButterChurn.BAD);
        Due.is("fill(255, 0) of eight cows", Due.told("cow 1 1;".repeat(8)).fill(255, 0), 8);
    }

    private static void hardness() {
        ButterChurn x = Due.told("cow 10 50;soft 130 10;");
        int[][] due = {{130, 50}, {131, 50}, {139, 50}, {140, 49}, {129, 51}, {121, 51}, {120, 51}, {119, 52},
            {0, 63}, {400, 23}};
        for (int[] one : due) {
            x.warm(one[0]);
            now(x, 2, one[1]);
        }
        ButterChurn y = Due.told("cow 10 50;soft 130 99;");
        y.warm(181);
        now(y, 2, 0);
        y.warm(182);
        now(y, 2, 0);
        y.warm(180);
        now(y, 2, 1);
        y.warm(0);
        now(y, 2, 100);
    }

    private static void joined() {
        // HARDNESS 50: RATE is AIR by 10. AIR 450, 900 by PACE 9; drops join all at once.
        ButterChurn x = Due.told("cow 10 50;soft 130 1;churn 400;beat 50 0;heat 99;drops 99 0 0 0;");
        Due.is("turn(1, 9)", x.turn(1, 9), 1);
        now(x, 3, 450);
        drops(x, 990 - 2 * 222, 222, 0, 0, 0, 0, 0);
        Due.is("turn(1, 9)", x.turn(1, 9), 1);
        now(x, 3, 900);
        drops(x, 546 - 2 * 245, 222 - 2 * 99 + 245, 99, 0, 0, 0, 0);
        now(x, 4, 2);
        now(x, 7, 990);
        now(x, 6, 990);
        // Divided down once: 30 times 70 is 2100; by 25, times 50 by 1000 is 4.2, and of 250 drops 5.
        ButterChurn y = Due.told("cow 5 30;soft 130 1;beat 50 0;drops 50 0 0 0;");
        y.turn(1, 1);
        drops(y, 240, 5);
        // 31 times 69 is 2139; by 25 it is 85.56. AIR 47: 4.02, so RATE 4 and 5 of 250 join; divided
        // down twice it would be 3, and 3 of 250.
        ButterChurn z = Due.told("cow 5 31;soft 130 1;beat 47 0;drops 50 0 0 0;");
        z.turn(1, 1);
        drops(z, 240, 5);
        z.turn(1, 9);
        // AIR 470: RATE 40; of 240 join 48.
        drops(z, 240 - 96, 5 - 2 + 48, 1);
    }

    private static void come() {
        // Just half of the fat is in the grains: it has come in turn 0.
        ButterChurn x = Due.told("cow 1 0;drops 8 0 0 1;grain 3;");
        now(x, 9, 0);
        Due.is("turn(1, 5)", x.turn(1, 5), 1);
        now(x, 5, 0);
        now(x, 3, 0);
        now(x, 6, 8);
        now(x, 7, 16);
        now(x, 4, 1);
        ButterChurn less = Due.told("cow 1 0;drops 9 0 0 1;grain 3;churn 400;");
        less.turn(400, 5);
        now(less, 5, ButterChurn.NONE);
        now(less, 3, 1000);
        // No fat at all does not come.
        ButterChurn none = Due.told("cow 1 50;drops 0 0 0 0;");
        none.turn(100, 5);
        now(none, 5, ButterChurn.NONE);
        // Grain 4: class 3 is no grain.
        ButterChurn four = Due.told("cow 1 0;drops 0 0 0 9;grain 4;");
        four.turn(3, 5);
        now(four, 5, ButterChurn.NONE);
        // The turn is counted on from what was turned ahead.
        ButterChurn late = Due.told("cow 2 50;drops 0 0 0 50;grain 4;beat 50 0;soft 130 1;heat 99;");
        late.turn(1, 1);
        // RATE 5: 2 of 100 joined. Then AIR 500, RATE 50: 24 of 96 joined. Then RATE 95.
        drops(late, 0, 0, 0, 96, 2);
        now(late, 5, ButterChurn.NONE);
        late.turn(1, 9);
        drops(late, 0, 0, 0, 48, 26, 0);
        now(late, 5, 1);
        now(late, 3, 0);
        now(late, 6, 48 * 8);
    }

    private static void turnedOn() {
        // Once it has come the pace alone tells: RATE 20 times PACE, 100 at most, without air.
        ButterChurn x = Due.told("cow 1 0;drops 0 0 0 80;grain 3;");
        x.turn(1, 1);
        drops(x, 0, 0, 0, 80);
        x.turn(1, 1);
        drops(x, 0, 0, 0, 64, 8);
        now(x, 3, 0);
        x.turn(1, 4);
        drops(x, 0, 0, 0, 64 - 50, 8 - 6 + 25, 3);
        x.turn(1, 9);
        drops(x, 0, 0, 0, 0, 27 - 26 + 7, 3 - 2 + 13, 1);
        x.turn(100, 5);
        // Nothing joins any more once no two are there; class 6 joins no further.
        drops(x, 0, 0, 0, 0, 0, 0, 10);
        now(x, 5, 0);
    }

    private static void swollen() {
        ButterChurn full = Due.told("cow 10 50;churn 10;heat 2;");
        now(full, 8, 1);
        now(full, 9, 2);
        Due.is("turn(5, 3)", full.turn(5, 3), 0);
        now(full, 4, 5);
        now(full, 1, 136);
        now(full, 3, 0);
        drops(full, 640, 160, 40, 0);
        // 8 litres and AIR 10 times 20 by 100: just as many as the churn has.
        ButterChurn just = Due.told("cow 8 50;churn 10;beat 10 20;");
        now(just, 8, 0);
        Due.is("turn(5, 1)", just.turn(5, 1), 1);
        now(just, 3, 10);
        now(just, 8, 1);
        // 7 litres and AIR 10 are 9; AIR 20 makes 11.
        Due.is("turn(5, 1)", Due.told("cow 7 50;churn 10;beat 10 20;").turn(5, 1), 2);
        // The swelling is divided down: 0.99, then 1.98.
        Due.is("turn(5, 1)", Due.told("cow 9 50;churn 10;beat 1 99;").turn(5, 1), 2);
        // Half of it out, and it falls again.
        full.half();
        now(full, 8, 0);
        Due.is("turn(1, 1)", full.turn(1, 1), 1);
        // The turn by which it comes it is not swollen in, nor any behind it.
        ButterChurn come = Due.told("cow 9 0;churn 10;drops 0 0 0 9;grain 3;beat 50 99;");
        Due.is("turn(9, 9)", come.turn(9, 9), 9);
        now(come, 8, 0);
        now(come, 5, 0);
    }

    private static void heated() {
        ButterChurn x = Due.told("cow 10 50;heat 3;");
        x.turn(2, 4);
        now(x, 1, 130);
        x.turn(1, 4);
        now(x, 1, 134);
        x.turn(6, 9);
        now(x, 1, 152);
        Due.is("warm(398)", x.warm(398), 152);
        x.turn(3, 1);
        now(x, 1, 399);
        x.turn(3, 9);
        now(x, 1, 400);
        Due.is("warm(0)", x.warm(0), 400);
        Due.is("warm(401)", x.warm(401), ButterChurn.BAD);
        Due.is("warm(-1)", x.warm(-1), ButterChurn.BAD);
        now(x, 1, 0);
        // It is by the warmth as it was ahead of the turn that drops join.
        ButterChurn one = Due.told("cow 10 100;heat 1;soft 130 99;beat 50 0;drops 99 0 0 0;");
        one.turn(1, 9);
        drops(one, 990, 0);
        now(one, 2, 92);
        one.turn(1, 9);
        // 92 times 8 is 736, times 900 by 25000 is 26.496.
        drops(one, 990 - 2 * 128, 128);
    }

    private static void airAtMost() {
        ButterChurn x = Due.told("cow 1 0;beat 50 0;");
        x.turn(2, 9);
        now(x, 3, 900);
        x.turn(1, 2);
        now(x, 3, 1000);
        x.turn(5, 9);
        now(x, 3, 1000);
        ButterChurn none = Due.told("cow 1 50;beat 0 0;");
        none.turn(400, 9);
        now(none, 3, 0);
        drops(none, 64, 16, 4);
    }

    private static void halved() {
        ButterChurn x = Due.told("cow 7 40;drops 9 7 5 3;beat 1 0;soft 130 1;churn 400;");
        x.turn(7, 1);
        Due.is("half()", x.half(), 3);
        now(x, 3, 3);
        drops(x, 31, 24, 17, 10, 0);
        now(x, 2, 40);
        now(x, 4, 7);
        now(x, 1, 130);
        now(x, 7, 31 + 48 + 68 + 80);
        Due.is("half()", x.half(), 1);
        Due.is("half()", x.half(), 0);
        Due.is("half()", x.half(), 0);
        now(x, 3, 0);
        now(x, 2, 40);
        ButterChurn come = Due.told("cow 1 0;drops 0 0 0 80;grain 3;");
        come.turn(1, 1);
        come.half();
        now(come, 5, 0);
        drops(come, 0, 0, 0, 40);
    }

    private static ButterChurn comeBy(String text) {
        ButterChurn x = Due.told("cow 1 50;soft 130 1;grain 3;beat 0 0;" + text);
        x.turn(1, 1);
        return x;
    }

    private static void outcomes() {
        // A tenth is left: it has come; a drop more: left behind.
        now(comeBy("drops 8 0 0 9;"), 9, 1);
        now(comeBy("drops 9 0 0 9;"), 9, 4);
        // Hardness below low is greasy, whatever else it is; just low is not.
        now(comeBy("drops 9 0 0 9;good 51 60;"), 9, 3);
        now(comeBy("drops 9 0 0 9;good 50 60;"), 9, 4);
        now(comeBy("drops 8 0 0 9;good 10 20;"), 9, 1);
        // 71 drops of class 3 make 8 of class 6, which are nine of ten of 568, not of 569.
        ButterChurn over = comeBy("drops 0 0 0 71;");
        over.turn(2, 5);
        now(over, 9, 1);
        over.turn(1, 5);
        drops(over, 0, 0, 0, 1, 1, 1, 8);
        now(over, 9, 5);
        over.warm(400);
        now(over, 9, 5);
        ButterChurn under = comeBy("drops 1 0 0 71;");
        under.turn(3, 5);
        drops(under, 1, 0, 0, 1, 1, 1, 8);
        now(under, 9, 1);
        ButterChurn greasy = comeBy("drops 0 0 0 80;good 60 70;");
        greasy.turn(10, 5);
        now(greasy, 9, 3);
        // Nothing is left of it at all: 0 is nine of ten of 0.
        ButterChurn none = comeBy("drops 0 0 0 1;");
        now(none, 9, 1);
        none.half();
        now(none, 7, 0);
        now(none, 9, 5);
    }

    private static void wrong() {
        ButterChurn x = Due.told("cow 10 50;");
        int[][] turns = {{0, 1}, {401, 1}, {-1, 1}, {1, 0}, {1, 10}, {1, -1}, {Integer.MAX_VALUE, 5},
            {5, Integer.MIN_VALUE}};
        for (int[] one : turns) {
            Due.is("turn(" + one[0] + ", " + one[1] + ")", x.turn(one[0], one[1]), ButterChurn.BAD);
        }
        now(x, 4, 0);
        now(x, 3, 0);
        Due.is("turn(400, 9)", Due.told("cow 10 50;churn 400;").turn(400, 9), 400);
        int[] bad = {-1, 10, Integer.MAX_VALUE, Integer.MIN_VALUE};
        for (int what : bad) {
            now(x, what, ButterChurn.BAD);
        }
        Due.is("drops(7)", x.drops(7), ButterChurn.BAD);
        Due.is("drops(-1)", x.drops(-1), ButterChurn.BAD);
    }
}
