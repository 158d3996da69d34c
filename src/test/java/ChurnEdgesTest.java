/** Promises 9 to 14, and what FILLED, a TURN and its outcomes are: each boundary by itself. */
public final class ChurnEdgesTest {
    private static final int BAD = ButterChurn.BAD, NONE = ButterChurn.NONE;
    private static final int MIN = Integer.MIN_VALUE, MAX = Integer.MAX_VALUE;

    private ChurnEdgesTest() {
    }

    public static void main(String[] args) {
        fillCows();
        fillCowsOfEight();
        fillWarmth();
        fillNone();
        fillAnew();
        hardDividedDown();
        hardnessBounds();
        hardnessDividedDown();
        turnTimes();
        turnPaces();
        turnCounts();
        swollenJust();
        swellDividedDown();
        swollenNothingElse();
        swollenStays();
        airAtMost();
        airOnceCome();
        rateOfHardness();
        rateDividedOnce();
        rateGreatest();
        joinedDividedDown();
        joinedAtOnce();
        lastClasses();
        rateOnceCome();
        comeByHalf();
        comeByNoFat();
        comeByGrain();
        comeTheFirstTime();
        heatEach();
        heatAtMost();
        heatAlways();
        warmBounds();
        halfDividedDown();
        halfOfNothing();
        halfKeepsTheRest();
        nowBounds();
        nowCome();
        nowSwollen();
        leftBelowGrain();
        foamedFirst();
        greasyJust();
        overdoneJust();
        leftBehindJust();
        outcomesInOrder();
        dropsBounds();
        Due.end("ChurnEdgesTest");
    }

    private static void now(ButterChurn x, int what, int want) {
        Due.is("now(" + what + ")", x.now(what), want);
    }

    private static void turn(ButterChurn x, int n, int pace, int want) {
        Due.is("turn(" + n + ", " + pace + ")", x.turn(n, pace), want);
    }

    private static void drops(ButterChurn x, int... want) {
        for (int k = 0; k < want.length; k++) {
            Due.is("drops(" + k + ")", x.drops(k), want[k]);
        }
    }

    // ---- promise 9

    private static void fillCows() {
        Due.sentence("9: FILLED with COWS (bits): there is no such COW: BAD");
        Look.refused("fill", BAD, x -> x.fill(8, 130), x -> x.fill(9, 130), x -> x.fill(15, 130),
                x -> x.fill(-1, 130), x -> x.fill(256, 130), x -> x.fill(MAX, 130), x -> x.fill(MIN, 130),
                x -> x.fill(1 << 30, 130), x -> x.fill(-8, 130));
        ButterChurn x = Look.full();
        int[] litres = {0, 10, 20, 30, 5, 15, 25, 35};
        for (int cows = 0; cows < 8; cows++) {
            Due.is("fill(" + cows + ", 130)", x.fill(cows, 130), litres[cows]);
            now(x, 0, litres[cows]);
        }
    }

    private static void fillCowsOfEight() {
        Due.sentence("9: COWS (8 at most), the last of eight");
        ButterChurn x = Due.told("cow 1 0;cow 2 0;cow 3 0;cow 4 0;cow 5 0;cow 6 0;cow 7 0;cow 50 80;");
        Due.is("fill(255, 130)", x.fill(255, 130), 78);
        Due.is("fill(256, 130)", x.fill(256, 130), BAD);
        Due.is("fill(257, 130)", x.fill(257, 130), BAD);
        Due.is("fill(128, 130)", x.fill(128, 130), 50);
        now(x, 2, 80);
        Due.is("fill(127, 130)", x.fill(127, 130), 28);
        now(x, 2, 0);
    }

    private static void fillWarmth() {
        Due.sentence("9: WARMTH (0 to 400): BAD");
        Look.refused("fill", BAD, x -> x.fill(7, -1), x -> x.fill(7, 401), x -> x.fill(0, 401),
                x -> x.fill(7, MIN), x -> x.fill(7, MAX));
        ButterChurn x = Look.full();
        Due.is("fill(7, 0)", x.fill(7, 0), 35);
        now(x, 1, 0);
        Due.is("fill(7, 400)", x.fill(7, 400), 35);
        now(x, 1, 400);
    }

    private static void fillNone() {
        Due.sentence("2: HARD: 0, if there are none");
        ButterChurn x = Due.told("cow 10 90;soft 130 1;");
        Due.is("fill(0, 130)", x.fill(0, 130), 0);
        Look.churnIs("filled with none", x, 0, 130, 0, 0, 0, NONE, 0, 0, 0, 0, 0, 0, 0, 0, 0, 0, 0);
        Due.is("fill(0, 30), colder by 100", x.fill(0, 30), 0);
        now(x, 2, 1);
    }

    private static void fillAnew() {
        Due.sentence("2: AIR 0, TURN 0, COME never");
        ButterChurn x = Due.told("cow 5 50;drops 0 1 2 50;grain 4;beat 50 0;soft 130 1;heat 1;");
        x.turn(3, 9);
        x.half();
        Due.is("whether it has come", x.now(5) >= 0 ? 1 : 0, 1);
        Due.is("fill(1, 130)", x.fill(1, 130), 5);
        int fat = 5 * (2 + 8 + 400);
        Look.churnIs("filled anew", x, 5, 130, 50, 0, 0, NONE, fat, fat, 0, 0, 0, 5, 10, 250, 0, 0, 0);
        x.turn(1, 1);
        now(x, 3, 50);
        Due.is("fill(1, 131), with AIR in it", x.fill(1, 131), 5);
        Look.churnIs("filled anew", x, 5, 131, 50, 0, 0, NONE, fat, fat, 0, 0, 0, 5, 10, 250, 0, 0, 0);
    }

    private static void hardDividedDown() {
        Due.sentence("2: HARD of COWS times litres, summed, by litres, divided down");
        ButterChurn x = Due.told("cow 1 99;cow 2 100;cow 50 0;soft 130 1;");
        x.fill(3, 130);
        now(x, 2, 99);
        x.fill(5, 130);
        now(x, 2, 1);
        x.fill(7, 130);
        now(x, 2, 5);
        x.fill(2, 130);
        now(x, 2, 100);
    }

    // ---- hardness

    private static void hardnessBounds() {
        Due.sentence("2: HARDNESS: below 0 it is 0, above 100 it is 100");
        ButterChurn x = Due.told("cow 10 50;soft 200 50;");
        int[][] due = {{298, 1}, {299, 1}, {300, 0}, {301, 0}, {302, 0}, {400, 0}, {102, 99}, {101, 100},
            {100, 100}, {99, 100}, {98, 100}, {0, 100}, {200, 50}};
        for (int[] one : due) {
            x.warm(one[0]);
            now(x, 2, one[1]);
        }
    }

    private static void hardnessDividedDown() {
        Due.sentence("2: HARDNESS: by 100, divided down (to the next whole number below)");
        ButterChurn x = Due.told("cow 10 50;soft 200 1;");
        int[][] due = {{200, 50}, {201, 50}, {299, 50}, {300, 49}, {399, 49}, {400, 48}, {199, 51}, {101, 51},
            {100, 51}, {99, 52}, {1, 52}, {0, 52}};
        for (int[] one : due) {
            x.warm(one[0]);
            now(x, 2, one[1]);
        }
    }

    // ---- promise 10

    private static void turnTimes() {
        Due.sentence("10: n TURNS (1 to 400): BAD");
        Look.refused("turn", BAD, x -> x.turn(0, 1), x -> x.turn(-1, 1), x -> x.turn(401, 1), x -> x.turn(0, 9),
                x -> x.turn(MAX, 1), x -> x.turn(MIN, 1));
        Look.refused("turn of what has come", Look::come, BAD, x -> x.turn(0, 1), x -> x.turn(401, 1));
        ButterChurn x = Due.told("cow 10 50;churn 400;");
        turn(x, 1, 1, 1);
        now(x, 4, 1);
        turn(x, 400, 1, 400);
        now(x, 4, 401);
    }

    private static void turnPaces() {
        Due.sentence("10: by a PACE (1 to 9): BAD");
        Look.refused("turn", BAD, x -> x.turn(1, 0), x -> x.turn(1, -1), x -> x.turn(1, 10), x -> x.turn(400, 10),
                x -> x.turn(1, MAX), x -> x.turn(1, MIN));
        ButterChurn x = Due.told("cow 10 50;churn 400;beat 10 0;");
        turn(x, 1, 1, 1);
        now(x, 3, 10);
        turn(x, 1, 9, 1);
        now(x, 3, 100);
    }

    private static void turnCounts() {
        Due.sentence("10: how many of them it was not SWOLLEN in");
        ButterChurn x = Due.told("cow 9 0;churn 10;beat 10 5;");
        turn(x, 1, 1, 1);
        // AIR 10 times 5 by 100 is 0; AIR 20 makes 1.
        turn(x, 400, 1, 1);
        turn(x, 1, 1, 0);
        turn(x, 400, 9, 0);
        now(x, 4, 802);
        // In the TURN in which it COMES, and behind it, it was not SWOLLEN.
        ButterChurn come = Due.told("cow 9 50;churn 10;drops 0 0 0 9;grain 3;beat 50 99;");
        turn(come, 1, 9, 1);
        turn(come, 400, 9, 400);
    }

    private static void swollenJust() {
        Due.sentence("2: SWOLLEN, if litres are as many as the churn has, or more");
        String[] cows = {"cow 9 0;", "cow 10 0;", "cow 11 0;"};
        for (int i = 0; i < 3; i++) {
            ButterChurn x = Due.told(cows[i] + "churn 10;beat 50 0;");
            now(x, 8, i == 0 ? 0 : 1);
            turn(x, 400, 9, i == 0 ? 400 : 0);
            now(x, 8, i == 0 ? 0 : 1);
        }
        String eight = "cow 50 0;".repeat(7);
        now(Due.told(eight + "cow 49 0;churn 400;"), 8, 0);
        now(Due.told(eight + "cow 50 0;churn 400;"), 8, 1);
    }

    private static void swellDividedDown() {
        Due.sentence("2: SWOLLEN: litres, and AIR times swell by 100 (that divided down)");
        // AIR 1 is 0.99 and AIR 2 is 1.98: it swells by AIR 2.
        turn(Due.told("cow 9 0;churn 10;beat 1 99;"), 400, 1, 2);
        // Just 1 by AIR 2, and 0.98 by AIR 2.
        turn(Due.told("cow 9 0;churn 10;beat 2 50;"), 400, 1, 1);
        turn(Due.told("cow 9 0;churn 10;beat 2 49;"), 400, 1, 2);
        // By the most AIR: 10 by swell 1; none by swell 0.
        turn(Due.told("cow 1 0;churn 11;beat 50 1;"), 400, 9, 3);
        turn(Due.told("cow 1 0;churn 12;beat 50 1;"), 400, 9, 400);
        turn(Due.told("cow 50 0;churn 51;beat 50 0;"), 400, 9, 400);
        // The most AIR by the most swell.
        turn(Due.told("churn 400;beat 50 99;"), 400, 1, 9);
    }

    private static void swollenNothingElse() {
        Due.sentence("2: SWOLLEN: then nothing but its WARMTH and TURN");
        // It would come in this TURN, if it were not SWOLLEN.
        ButterChurn x = Due.told("cow 10 50;churn 10;drops 9 9 9 9;grain 3;heat 2;soft 130 1;beat 50 0;");
        int fat = 10 * 9 * 15;
        turn(x, 3, 4, 0);
        Look.churnIs("swollen", x, 10, 134, 50, 0, 3, NONE, 10 * 9 * 7, fat, 1, 2, 90, 90, 90, 90, 0, 0, 0);
        turn(x, 1, 9, 0);
        now(x, 1, 143);
        now(x, 4, 4);
    }

    private static void swollenStays() {
        Due.sentence("2: SWOLLEN by its AIR: AIR and drops stay");
        ButterChurn x = Due.told("cow 9 50;churn 10;beat 10 10;heat 99;soft 130 1;");
        turn(x, 1, 1, 1);
        int[] ahead = Look.churn(x);
        now(x, 3, 10);
        now(x, 8, 1);
        turn(x, 98, 9, 0);
        ahead[4] = 99;
        ahead[1] = 139;
        Look.churnIs("swollen by its air", x, ahead);
    }

    private static void airAtMost() {
        Due.sentence("2: AIR is more by beat times PACE, 1000 at most");
        ButterChurn x = Due.told("cow 1 0;beat 50 0;");
        int[] paces = {9, 9, 1, 1, 1, 9};
        int[] air = {450, 900, 950, 1000, 1000, 1000};
        for (int i = 0; i < paces.length; i++) {
            turn(x, 1, paces[i], 1);
            now(x, 3, air[i]);
        }
        ButterChurn over = Due.told("cow 1 0;beat 37 0;");
        turn(over, 27, 1, 27);
        now(over, 3, 999);
        turn(over, 1, 1, 1);
        now(over, 3, 1000);
        ButterChurn none = Due.told("cow 1 0;beat 0 99;");
        turn(none, 400, 9, 400);
        now(none, 3, 0);
    }

    private static void airOnceCome() {
        Due.sentence("2: AIR is more .., if it has not COME; in the TURN in which it COMES AIR is 0");
        ButterChurn x = Due.told("cow 1 0;drops 0 0 0 9;grain 3;beat 50 99;");
        turn(x, 1, 9, 1);
        now(x, 3, 0);
        now(x, 5, 0);
        turn(x, 400, 9, 400);
        now(x, 3, 0);
    }

    /** One TURN by AIR 1000, which was beaten in by a HARDNESS of 0. */
    private static ButterChurn beaten(String text, int warm) {
        ButterChurn x = Due.told("soft 200 99;beat 50 0;heat 99;churn 400;" + text);
        x.warm(400);
        x.turn(3, 9);
        Due.is("AIR", x.now(3), 1000);
        x.warm(warm);
        x.turn(1, 1);
        return x;
    }

    private static void rateOfHardness() {
        Due.sentence("2: RATE is HARDNESS times (100 less HARDNESS) by 25, times AIR by 1000");
        // HARD 50: at WARMTH 150 it is 100 (49.5 below, divided down), at 250 it is 1 (49.5 above).
        int[] warm = {149, 150, 151, 200, 250, 251, 252};
        int[] hardness = {100, 100, 99, 50, 1, 0, 0};
        // RATE is 0, 0, 3 (.96), 100, 3, 0, 0: of 990 drops so many times two join.
        int[] joined = {0, 0, 14, 495, 14, 0, 0};
        for (int i = 0; i < warm.length; i++) {
            ButterChurn x = beaten("cow 10 50;drops 99 0 0 0;", warm[i]);
            now(x, 2, hardness[i]);
            drops(x, 990 - 2 * joined[i], joined[i], 0);
        }
        // Without AIR, RATE is 0.
        ButterChurn none = Due.told("cow 10 50;drops 99 0 0 0;beat 0 0;");
        none.turn(400, 9);
        drops(none, 990, 0);
    }

    private static void rateDividedOnce() {
        Due.sentence("2: RATE: divided down once");
        // 31 times 69 by 25 is 85.56; times 47 by 1000 is 4.02: of 250 drops 5 join. By 85 it were 3.99.
        ButterChurn x = Due.told("cow 5 31;soft 130 1;beat 47 0;drops 50 0 0 0;");
        x.turn(1, 1);
        drops(x, 240, 5);
        // 49 times 51 by 25 is 99.96; times 400 is 39.98, times 450 is 44.98: of five drops none join,
        // and by 45 of 40 drops 9.
        ButterChurn y = Due.told("cow 1 49;soft 130 1;beat 50 0;drops 40 0 0 0;");
        y.turn(1, 9);
        drops(y, 24, 8);
    }

    private static void rateGreatest() {
        Due.sentence("2: RATE (100 at most)");
        // By HARDNESS 50 and AIR 1000 it is just 100: all join, an odd one stays.
        ButterChurn x = beaten("cow 10 50;drops 99 0 0 0;", 200);
        drops(x, 0, 495, 0);
        x.turn(1, 1);
        drops(x, 0, 1, 247, 0);
        x.turn(1, 1);
        drops(x, 0, 1, 1, 123, 0);
    }

    private static void joinedDividedDown() {
        Due.sentence("2: two by two RATE times how many there are by 200, divided down");
        // AIR 50, RATE 5: of 39 drops none join, of 40 two.
        ButterChurn x = Due.told("cow 1 50;soft 130 1;beat 50 0;drops 39 0 0 0;");
        x.turn(1, 1);
        drops(x, 39, 0);
        ButterChurn y = Due.told("cow 1 50;soft 130 1;beat 50 0;drops 40 0 0 0;");
        y.turn(1, 1);
        drops(y, 38, 1);
        ButterChurn z = Due.told("cow 1 50;soft 130 1;beat 50 0;drops 79 0 0 0;");
        z.turn(1, 1);
        drops(z, 77, 1);
        // By RATE 100 one drop alone does not join, two do.
        drops(beaten("cow 1 50;drops 1 0 2 0;", 200), 1, 0, 0, 1, 0);
        drops(beaten("cow 1 50;drops 0 3 0 1;", 200), 0, 1, 1, 1, 0);
    }

    private static void joinedAtOnce() {
        Due.sentence("2: then drops join, all at once");
        // RATE 5: 38 and 39 do not join with those that come of the class below.
        ButterChurn x = Due.told("cow 1 50;soft 130 1;beat 50 0;drops 80 38 39 39;grain 6;");
        x.turn(1, 1);
        drops(x, 76, 40, 39, 39, 0);
        ButterChurn y = Due.told("cow 1 50;soft 130 1;beat 50 0;drops 40 40 40 40;grain 6;");
        y.turn(1, 1);
        drops(y, 38, 39, 39, 39, 1, 0);
        drops(beaten("cow 1 50;drops 2 1 1 1;", 200), 0, 2, 1, 1, 0);
    }

    private static void lastClasses() {
        Due.sentence("2: of CLASS k (0 to 5)");
        ButterChurn x = Due.told("cow 1 0;drops 0 0 0 96;grain 3;beat 0 0;");
        turn(x, 1, 5, 1);
        drops(x, 0, 0, 0, 96, 0, 0, 0);
        turn(x, 1, 5, 1);
        drops(x, 0, 0, 0, 0, 48, 0, 0);
        turn(x, 1, 5, 1);
        drops(x, 0, 0, 0, 0, 0, 24, 0);
        turn(x, 1, 5, 1);
        drops(x, 0, 0, 0, 0, 0, 0, 12);
        // Those of CLASS 6 join no more.
        turn(x, 400, 9, 400);
        drops(x, 0, 0, 0, 0, 0, 0, 12);
        now(x, 7, 768);
    }

    private static void rateOnceCome() {
        Due.sentence("2: once it has COME, RATE is 20 times PACE, 100 at most");
        int[] joined = {0, 10, 20, 30, 40, 50, 50, 50, 50, 50};
        for (int pace = 1; pace <= 9; pace++) {
            // HARDNESS 0 and no AIR: its own RATE were 0.
            ButterChurn x = Due.told("cow 4 0;drops 0 0 0 25;grain 3;beat 0 0;");
            x.turn(1, 9);
            drops(x, 0, 0, 0, 100, 0);
            x.turn(1, pace);
            drops(x, 0, 0, 0, 100 - 2 * joined[pace], joined[pace]);
        }
        // Of many drops it is seen that RATE is 100, and no more.
        ButterChurn many = Due.told("cow 50 0;drops 0 0 0 99;grain 3;beat 0 0;");
        many.turn(1, 1);
        many.keep(0);
        for (int pace = 4; pace <= 9; pace++) {
            many.back(0);
            many.turn(1, pace);
            drops(many, 0, 0, 0, pace == 4 ? 990 : 0, pace == 4 ? 1980 : 2475);
        }
        // Nine drops by RATE 20 are 0.9, ten are two by two one.
        ButterChurn nine = Due.told("cow 1 0;drops 0 0 0 9;grain 3;");
        nine.turn(400, 1);
        drops(nine, 0, 0, 0, 9, 0);
        ButterChurn ten = Due.told("cow 1 0;drops 0 0 0 10;grain 3;");
        ten.turn(2, 1);
        drops(ten, 0, 0, 0, 8, 1);
    }

    private static void comeByHalf() {
        Due.sentence("2: if FAT in CLASSES from grain on is half of all or more, it has COME in this TURN");
        int[] small = {7, 8, 9};
        for (int n : small) {
            ButterChurn x = Due.told("cow 1 0;drops " + n + " 0 0 1;grain 3;churn 400;");
            now(x, 5, NONE);
            turn(x, 1, 5, 1);
            now(x, 5, n <= 8 ? 0 : NONE);
            now(x, 9, n <= 8 ? 3 : 0);
            turn(x, 400, 5, 400);
            now(x, 5, n <= 8 ? 0 : NONE);
        }
        // It is looked at behind the joining: RATE 45 joins two of five of CLASS 2 by AIR 450.
        ButterChurn y = Due.told("cow 1 50;drops 0 0 5 1;grain 3;beat 50 0;soft 130 1;");
        y.turn(1, 7);
        now(y, 5, NONE);
        y.turn(1, 1);
        now(y, 5, 1);
        drops(y, 0, 0, 3, 2);
    }

    private static void comeByNoFat() {
        Due.sentence("2: half of all or more (there is some)");
        ButterChurn none = Due.told("cow 1 50;drops 0 0 0 0;churn 400;");
        turn(none, 400, 5, 400);
        now(none, 5, NONE);
        now(none, 9, 0);
        ButterChurn noCows = Due.told("grain 3;churn 400;");
        turn(noCows, 400, 1, 400);
        now(noCows, 5, NONE);
        // One drop is some; halved it is none.
        ButterChurn one = Due.told("cow 1 50;drops 0 0 0 1;grain 3;beat 0 0;");
        one.keep(0);
        one.half();
        turn(one, 5, 1, 5);
        now(one, 5, NONE);
        one.back(0);
        turn(one, 1, 1, 1);
        now(one, 5, 0);
    }

    private static void comeByGrain() {
        Due.sentence("2: FAT in CLASSES from grain on (a CLASS 3 to 6)");
        now(comeOf("drops 0 0 0 9;grain 3;"), 5, 0);
        now(comeOf("drops 0 0 0 9;grain 4;"), 5, NONE);
        now(comeOf("drops 0 0 99 0;grain 3;"), 5, NONE);
        for (int grain = 3; grain <= 6; grain++) {
            ButterChurn x = Due.told("cow 50 50;drops 9 9 9 9;soft 130 1;churn 400;heat 99;grain " + grain + ";");
            for (int n = 0; n < 60 && x.now(5) == NONE; n++) {
                Due.is("whether it is less than half ahead", 2 * fatFrom(x, grain) < x.now(7) || n == 0 ? 1 : 0, 1);
                x.turn(1, 3);
                boolean half = 2 * fatFrom(x, grain) >= x.now(7);
                now(x, 5, half ? n : NONE);
                now(x, 6, x.now(7) - fatFrom(x, grain));
            }
            Due.is("whether it has come by grain " + grain, x.now(5) >= 0 ? 1 : 0, 1);
        }
    }

    private static ButterChurn comeOf(String text) {
        ButterChurn x = Due.told("cow 1 50;beat 0 0;" + text);
        x.turn(1, 1);
        return x;
    }

    private static int fatFrom(ButterChurn x, int k) {
        int fat = 0;
        for (int i = k; i < 7; i++) {
            fat += x.drops(i) << i;
        }
        return fat;
    }

    private static void comeTheFirstTime() {
        Due.sentence("2: it has COME in this TURN (the first time)");
        // Half out makes it less than half once more, and warm joins it on: the TURN stays.
        ButterChurn x = Due.told("cow 1 50;drops 0 0 4 3;grain 3;beat 0 0;soft 130 1;churn 10;");
        turn(x, 2, 1, 2);
        now(x, 5, 0);
        x.half();
        drops(x, 0, 0, 2, 1);
        x.half();
        drops(x, 0, 0, 1, 0);
        now(x, 5, 0);
        now(x, 9, 4);
        turn(x, 9, 9, 9);
        now(x, 5, 0);
        now(x, 4, 11);
        now(x, 8, 0);
    }

    private static void heatEach() {
        Due.sentence("2: WARMTH is PACE more behind each heat TURNS (TURN a multiple of it)");
        int[] heats = {1, 2, 98, 99};
        for (int heat : heats) {
            ButterChurn x = Due.told("cow 1 50;churn 400;soft 0 1;beat 0 0;heat " + heat + ";");
            for (int n = 1; n <= 200; n++) {
                x.turn(1, 1);
                now(x, 1, n / heat);
            }
        }
        ButterChurn x = Due.told("cow 1 50;churn 400;beat 0 0;heat 3;");
        turn(x, 2, 9, 2);
        now(x, 1, 130);
        turn(x, 1, 4, 1);
        now(x, 1, 134);
        turn(x, 5, 9, 5);
        now(x, 1, 143);
    }

    private static void heatAtMost() {
        Due.sentence("2: WARMTH .. 400 at most");
        ButterChurn x = Due.told("cow 1 50;beat 0 0;heat 1;");
        int[][] due = {{390, 9, 399}, {391, 9, 400}, {392, 9, 400}, {399, 1, 400}, {400, 1, 400}, {400, 9, 400},
            {398, 1, 399}};
        for (int[] one : due) {
            x.warm(one[0]);
            x.turn(1, one[1]);
            now(x, 1, one[2]);
        }
        x.turn(400, 9);
        now(x, 1, 400);
    }

    private static void heatAlways() {
        Due.sentence("2: then TURN is one more; WARMTH ..: SWOLLEN or COME, too");
        ButterChurn swollen = Due.told("cow 10 50;churn 10;heat 4;");
        turn(swollen, 4, 3, 0);
        now(swollen, 1, 133);
        now(swollen, 4, 4);
        ButterChurn come = Due.told("cow 1 50;drops 0 0 0 9;grain 3;heat 4;");
        turn(come, 8, 3, 8);
        now(come, 5, 0);
        now(come, 1, 136);
        now(come, 4, 8);
    }

    // ---- promises 11 and 12

    private static void warmBounds() {
        Due.sentence("11: WARMTH becomes v: what it was; BAD");
        Look.refused("warm", BAD, x -> x.warm(-1), x -> x.warm(401), x -> x.warm(MIN), x -> x.warm(MAX));
        ButterChurn x = Look.full();
        Due.is("warm(0)", x.warm(0), 120);
        now(x, 1, 0);
        Due.is("warm(400)", x.warm(400), 0);
        now(x, 1, 400);
        Due.is("warm(400)", x.warm(400), 400);
        Due.is("warm(1)", x.warm(1), 400);
    }

    private static void halfDividedDown() {
        Due.sentence("12: litres, AIR, drops of each CLASS are half as many, divided down: litres then");
        ButterChurn x = Due.told("cow 7 50;drops 1 3 5 9;beat 1 0;soft 130 1;churn 400;");
        x.turn(5, 1);
        Due.is("half()", x.half(), 3);
        now(x, 0, 3);
        now(x, 3, 2);
        drops(x, 3, 10, 17, 31, 0);
        Due.is("half()", x.half(), 1);
        now(x, 3, 1);
        drops(x, 1, 5, 8, 15, 0);
        Due.is("half()", x.half(), 0);
        now(x, 3, 0);
        drops(x, 0, 2, 4, 7, 0);
        // The greatest classes, too.
        ButterChurn y = Due.told("cow 1 0;drops 0 0 0 97;grain 3;");
        y.turn(4, 4);
        int[] ahead = new int[7];
        for (int k = 0; k < 7; k++) {
            ahead[k] = y.drops(k);
            Due.is("whether there are of CLASS " + k, ahead[k] > 0 ? 1 : 0, k < 3 ? 0 : 1);
        }
        y.half();
        for (int k = 0; k < 7; k++) {
            Due.is("drops(" + k + ") of " + ahead[k], y.drops(k), ahead[k] / 2);
        }
    }

    private static void halfOfNothing() {
        Due.sentence("12: of nothing nothing");
        ButterChurn x = new ButterChurn();
        Due.is("half()", x.half(), 0);
        Look.churnIs("half of nothing", x, 0, 130, 0, 0, 0, NONE, 0, 0, 0, 0, 0, 0, 0, 0, 0, 0, 0);
        ButterChurn one = Due.told("cow 1 50;drops 1 1 1 1;");
        Due.is("half() of one litre", one.half(), 0);
        Look.churnIs("half of one litre", one, 0, 130, 50, 0, 0, NONE, 0, 0, 0, 0, 0, 0, 0, 0, 0, 0, 0);
    }

    private static void halfKeepsTheRest() {
        Due.sentence("12: half of it is taken out, and nothing else is changed");
        ButterChurn x = Look.come();
        int[] ahead = Look.churn(x);
        Due.is("whether it has come", ahead[5] > 0 ? 1 : 0, 1);
        x.half();
        int[] same = {1, 2, 4, 5};
        for (int what : same) {
            now(x, what, ahead[what]);
        }
        // Half out of what is SWOLLEN: it is so no more.
        ButterChurn full = Due.told("cow 10 50;churn 10;");
        now(full, 8, 1);
        full.half();
        now(full, 8, 0);
        turn(full, 1, 1, 1);
    }

    // ---- promises 13 and 14

    private static void nowBounds() {
        Due.sentence("13: 0 litres .. 9 which it is; BAD");
        ButterChurn x = Look.full();
        int[] bad = {-1, 10, 16, MIN, MAX};
        for (int what : bad) {
            now(x, what, BAD);
        }
        now(x, 0, 35);
        now(x, 9, 0);
    }

    private static void nowCome() {
        Due.sentence("13: the TURN in which it COMES (counted from 0; NONE)");
        ButterChurn first = Due.told("cow 1 50;drops 0 0 0 9;grain 3;");
        now(first, 5, NONE);
        first.turn(1, 1);
        now(first, 5, 0);
        first.turn(1, 1);
        now(first, 5, 0);
        // AIR 500 is RATE 50: then two of four join, in the tenth TURN.
        ButterChurn tenth = Due.told("cow 1 50;drops 0 0 0 4;grain 4;beat 50 0;soft 130 1;");
        tenth.turn(9, 1);
        now(tenth, 5, NONE);
        tenth.turn(1, 1);
        now(tenth, 5, 9);
        now(tenth, 4, 10);
    }

    private static void nowSwollen() {
        Due.sentence("13: 8 whether it is SWOLLEN");
        ButterChurn x = Due.told("cow 9 50;churn 10;beat 10 10;");
        now(x, 8, 0);
        x.turn(1, 1);
        now(x, 8, 1);
        x.half();
        now(x, 8, 0);
        x.fill(1, 0);
        now(x, 8, 0);
    }

    private static void leftBelowGrain() {
        Due.sentence("2: LEFT: FAT in CLASSES below grain");
        int[] left = {7, 15, 15, 15};
        for (int grain = 3; grain <= 6; grain++) {
            ButterChurn x = Due.told("cow 1 50;drops 1 1 1 1;grain " + grain + ";");
            now(x, 6, left[grain - 3]);
            now(x, 7, 15);
        }
        now(Due.told("cow 50 50;drops 99 99 99 99;grain 6;"), 6, 50 * 99 * 15);
        // It is LEFT once it has COME, too.
        now(comeOf("drops 1 1 0 9;grain 3;"), 6, 3);
    }

    private static void foamedFirst() {
        Due.sentence("2: the first that fits: 2 FOAMED (SWOLLEN now), 0 CHURNING (it has not COME)");
        now(Due.told("cow 9 0;churn 10;"), 9, 0);
        now(Due.told("cow 10 0;churn 10;"), 9, 2);
        now(Due.told("cow 10 50;churn 10;"), 9, 2);
        ButterChurn x = Due.told("cow 9 50;churn 10;beat 10 10;");
        now(x, 9, 0);
        x.turn(1, 1);
        now(x, 9, 2);
        x.half();
        now(x, 9, 0);
    }

    private static void greasyJust() {
        Due.sentence("2: 3 GREASY (HARDNESS below low)");
        ButterChurn x = comeOf("drops 0 0 0 9;grain 3;soft 0 50;good 20 30;");
        // HARD 50: HARDNESS 20 at WARMTH 60 and 61, 19 at 62, 21 at 58.
        int[][] due = {{58, 1}, {60, 1}, {61, 1}, {62, 3}, {400, 3}, {0, 1}};
        for (int[] one : due) {
            x.warm(one[0]);
            now(x, 9, one[1]);
        }
        // Low 0 is never GREASY; above high it is not, either.
        ButterChurn zero = comeOf("drops 0 0 0 9;grain 3;soft 0 99;good 0 0;");
        zero.warm(400);
        now(zero, 2, 0);
        now(zero, 9, 1);
        zero.warm(0);
        now(zero, 9, 1);
        ButterChurn most = comeOf("drops 0 0 0 9;grain 3;soft 130 99;good 100 100;");
        now(most, 9, 3);
        most.warm(0);
        now(most, 2, 100);
        now(most, 9, 1);
    }

    private static void overdoneJust() {
        Due.sentence("2: 5 OVERDONE (FAT in CLASS 6 is nine of ten or more of all)");
        // 71 drops of CLASS 3 become one each of 3, 4, 5 and 8 of CLASS 6: 512 of 568.
        int[][] due = {{0, 5, 568}, {1, 1, 569}, {2, 1, 570}};
        for (int[] one : due) {
            ButterChurn x = comeOf("soft 130 1;drops " + one[0] + " 0 0 71;grain 3;");
            now(x, 9, 1);
            turn(x, 2, 5, 2);
            now(x, 9, 1);
            turn(x, 1, 5, 1);
            Due.is("drops(6)", x.drops(6), 8);
            now(x, 7, one[2]);
            now(x, 9, one[1]);
        }
        justNineOfTen();
        // All of it gone: 0 is nine of ten of 0.
        ButterChurn none = comeOf("drops 0 0 0 1;grain 3;");
        now(none, 9, 1);
        none.half();
        now(none, 7, 0);
        now(none, 9, 5);
    }

    /** 72 drops of CLASS 3 become 9 of CLASS 6: just nine of ten of 640, not of 641. */
    private static void justNineOfTen() {
        int[] small = {63, 64, 65};
        for (int n : small) {
            ButterChurn x = comeOf("soft 130 1;drops " + n + " 0 0 72;grain 3;");
            turn(x, 3, 5, 3);
            Due.is("drops(6)", x.drops(6), 9);
            now(x, 7, 576 + n);
            now(x, 9, n <= 64 ? 5 : 1);
        }
    }

    private static void leftBehindJust() {
        Due.sentence("2: 4 LEFT BEHIND (LEFT more than a tenth of all), 1 COME");
        // 8 of 80 and 9 of 81 and 7 of 79.
        int[] small = {7, 8, 9};
        for (int n : small) {
            ButterChurn x = comeOf("soft 130 1;drops " + n + " 0 0 9;grain 3;");
            now(x, 6, n);
            now(x, 7, 72 + n);
            now(x, 9, n <= 8 ? 1 : 4);
        }
        now(comeOf("soft 130 1;drops 0 0 0 9;grain 3;"), 9, 1);
        now(comeOf("soft 130 1;drops 0 0 18 9;grain 3;"), 9, 4);
    }

    private static void outcomesInOrder() {
        Due.sentence("2: it is, the first that fits: 3 GREASY ahead of 5 OVERDONE and 4 LEFT BEHIND");
        ButterChurn left = comeOf("soft 130 1;drops 9 0 0 9;grain 3;good 51 100;");
        now(left, 9, 3);
        ButterChurn done = comeOf("soft 130 1;drops 0 0 0 71;grain 3;good 51 100;");
        done.turn(3, 5);
        now(done, 9, 3);
        ButterChurn both = comeOf("drops 0 0 0 1;grain 3;good 51 100;");
        both.half();
        now(both, 9, 3);
        // FOAMED is not what has COME; CHURNING is not what has not, though all of it were done.
        ButterChurn full = Due.told("cow 10 0;churn 10;drops 0 0 0 9;grain 3;");
        full.turn(5, 5);
        now(full, 9, 2);
    }

    private static void dropsBounds() {
        Due.sentence("14: drops of a CLASS (0 to 6); BAD");
        ButterChurn x = Look.come();
        int[] bad = {-1, 7, 10, 16, MIN, MAX};
        for (int k : bad) {
            Due.is("drops(" + k + ")", x.drops(k), BAD);
        }
        Due.is("whether there are some of CLASS 6", x.drops(6) > 0 ? 1 : 0, 1);
        Due.is("drops(0) of a new fill", x.fill(1, 0) > 0 ? x.drops(0) : NONE, 600);
    }
}
