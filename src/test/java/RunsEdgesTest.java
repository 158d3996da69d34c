/** Promises 15 to 23: each sentence that names a boundary case, by itself. */
public final class RunsEdgesTest {
    private static final int BAD = ButterChurn.BAD, NONE = ButterChurn.NONE;
    private static final int MIN = Integer.MIN_VALUE, MAX = Integer.MAX_VALUE;
    /** Of five drops two join by RATE 40, and it comes: by HARDNESS 50 with AIR 400, by 49 with 401. */
    private static final String FIVE = "drops 0 0 5 1;grain 3;beat 1 0;";

    private RunsEdgesTest() {
    }

    public static void main(String[] args) {
        byItself();
        runCows();
        runWarmth();
        runPace();
        runTimes();
        runWhat();
        comesBounds();
        comesFirst();
        comesLast();
        comesNever();
        planCows();
        planWhat();
        planNone();
        planOfEach();
        planLastTurn();
        planHardness();
        planLeastLeft();
        planFewestTurns();
        planLeastWarmth();
        planLeastPace();
        planEnds();
        withoutWhat();
        withoutNone();
        withoutLowToHigh();
        withoutFewest();
        withoutOfEight();
        sawTurns();
        sawCows();
        sawFull();
        forgotten();
        whyWhat();
        whyNothingSeen();
        whyNone();
        whyNotWithin();
        whyAllOfEight();
        whyFirst();
        whyEnds();
        nextBounds();
        nextState();
        nextNone();
        nextWithin();
        nextFirstOfSeveral();
        nextWarmest();
        nextColdest();
        nextHalf();
        overBounds();
        overState();
        overAlready();
        overNever();
        overFewest();
        Due.end("RunsEdgesTest");
    }

    /** How many TURNS a RUN takes, by filling and turning the churn; NONE. */
    private static int comesByTurning(ButterChurn x, int cows, int warm, int pace) {
        x.fill(cows, warm);
        x.turn(400, pace);
        return x.now(5) == NONE ? NONE : x.now(5) + 1;
    }

    private static void seen(ButterChurn x, int ways, int warm, int pace) {
        Due.is("why(0)", x.why(0), ways);
        Due.is("why(1)", x.why(1), warm);
        Due.is("why(2)", x.why(2), pace);
    }

    private static void plan(String text, int... want) {
        ButterChurn x = Due.told(text);
        for (int what = 0; what < 4; what++) {
            Due.is("plan(1, " + what + ") of " + text, x.plan(1, what), want.length > 1 ? want[what] : want[0]);
        }
        int[] turned = planByTurning(text);
        for (int what = 0; what < 4; what++) {
            Due.is("that plan by turning", turned[what], want.length > 1 ? want[what] : want[0]);
        }
    }

    /** A plan for the first cow by filling and turning the churn in each way. */
    private static int[] planByTurning(String text) {
        int[] best = {NONE, NONE, NONE, NONE};
        for (int warm = 0; warm <= 400; warm += 20) {
            ButterChurn x = Due.told(text);
            for (int pace = 1; pace <= 9; pace++) {
                int turns = comesByTurning(x, 1, warm, pace);
                if (turns == NONE) {
                    continue;
                }
                x.fill(1, warm);
                x.turn(turns, pace);
                int left = x.now(6);
                boolean good = x.now(2) >= x.rule(7) && x.now(2) <= x.rule(8);
                boolean less = best[3] == NONE || left < best[3] || left == best[3] && turns < best[2];
                if (good && less) {
                    best = new int[] {warm, pace, turns, left};
                }
            }
        }
        return best;
    }

    // ---- promises 15 and 16

    private static void byItself() {
        Due.sentence("15 to 18, 21 to 23: a RUN, by itself: nothing is changed by what is asked");
        ButterChurn x = Look.full();
        x.run(5, 100, 9, 400, 3);
        x.comes(7, 100, 9);
        x.plan(7, 0);
        x.without(0);
        x.why(0);
        x.next(9, 0);
        x.over(9);
        Look.same("behind what was asked", x, Look.full());
        ButterChurn y = Look.come();
        Due.is("whether it has come", y.over(9) == ButterChurn.STATE ? 1 : 0, 0);
        y.run(7, 120, 9, 400, 16);
        y.next(9, 0);
        Look.same("behind what was asked of what has come", y, Look.come());
        // Nor does it begin from THE CHURN.
        ButterChurn z = Look.come();
        // HARD 40 at WARMTH 99: 31 less, times 12 by 100, divided down, is 4 harder.
        int[] due = {10, 99, 44, 0, 0, NONE, 1280, 1280, 0, 0, 600, 200, 50, 10, 0, 0, 0};
        for (int what = 0; what < due.length; what++) {
            Due.is("run(1, 99, 3, 0, " + what + ")", z.run(1, 99, 3, 0, what), due[what]);
        }
    }

    private static void runCows() {
        Due.sentence("15: some COWS: there is no such COW: BAD");
        Look.refused("run", BAD, x -> x.run(8, 130, 1, 1, 0), x -> x.run(-1, 130, 1, 1, 0),
                x -> x.run(256, 130, 1, 1, 0), x -> x.run(MAX, 130, 1, 1, 0), x -> x.run(MIN, 130, 1, 1, 0));
        ButterChurn x = Look.full();
        Due.is("run of all", x.run(7, 130, 1, 0, 0), 35);
        Due.is("run of none", x.run(0, 130, 9, 400, 0), 0);
        Due.is("run of none, COME", x.run(0, 130, 9, 400, 5), NONE);
        ButterChurn eight = Due.told("cow 1 1;".repeat(8));
        Due.is("run of all eight", eight.run(255, 130, 1, 0, 0), 8);
        Due.is("run of a ninth", eight.run(256, 130, 1, 0, 0), BAD);
    }

    private static void runWarmth() {
        Due.sentence("15: at a WARMTH (0 to 400): BAD");
        Look.refused("run", BAD, x -> x.run(7, -1, 1, 1, 0), x -> x.run(7, 401, 1, 1, 0),
                x -> x.run(7, MAX, 1, 1, 0), x -> x.run(7, MIN, 1, 1, 0));
        ButterChurn x = Look.full();
        Due.is("run at 0", x.run(7, 0, 1, 0, 1), 0);
        Due.is("run at 400", x.run(7, 400, 1, 0, 1), 400);
        Due.is("run at 400, heated", x.run(7, 400, 9, 7, 1), 400);
    }

    private static void runPace() {
        Due.sentence("15: by a PACE (1 to 9): BAD");
        Look.refused("run", BAD, x -> x.run(7, 130, 0, 1, 0), x -> x.run(7, 130, 10, 1, 0),
                x -> x.run(7, 130, -1, 0, 0), x -> x.run(7, 130, MAX, 1, 0), x -> x.run(7, 130, MIN, 1, 0));
        ButterChurn x = Look.full();
        Due.is("AIR by pace 1", x.run(7, 130, 1, 1, 3), 9);
        Due.is("AIR by pace 9", x.run(7, 130, 9, 1, 3), 81);
    }

    private static void runTimes() {
        Due.sentence("15: n 0 to 400: BAD");
        Look.refused("run", BAD, x -> x.run(7, 130, 1, -1, 0), x -> x.run(7, 130, 1, 401, 0),
                x -> x.run(7, 130, 1, MAX, 0), x -> x.run(7, 130, 1, MIN, 0));
        int[] many = {0, 1, 2, 399, 400};
        for (int n : many) {
            ButterChurn x = Look.full();
            Due.is("TURN behind " + n, x.run(7, 130, 3, n, 4), n);
            x.fill(7, 130);
            if (n > 0) {
                x.turn(n, 3);
            }
            int[] due = Look.churn(x);
            for (int what = 0; what < due.length; what++) {
                Due.is("run(7, 130, 3, " + n + ", " + what + ")", x.run(7, 130, 3, n, what), due[what]);
            }
        }
    }

    private static void runWhat() {
        Due.sentence("15: as now() tells (0 to 9); 10 and k: drops of CLASS k (0 to 6); BAD");
        Look.refused("run", BAD, x -> x.run(7, 130, 1, 1, -1), x -> x.run(7, 130, 1, 1, 17),
                x -> x.run(7, 130, 1, 0, 17), x -> x.run(7, 130, 1, 1, MAX), x -> x.run(7, 130, 1, 1, MIN));
        ButterChurn x = Look.full();
        Due.is("what 0", x.run(7, 130, 1, 0, 0), 35);
        Due.is("what 9", x.run(7, 130, 1, 0, 9), 0);
        Due.is("what 10", x.run(7, 130, 1, 0, 10), 60 * 35);
        Due.is("what 13", x.run(7, 130, 1, 0, 13), 35);
        Due.is("what 16", x.run(7, 130, 1, 0, 16), 0);
    }

    private static void comesBounds() {
        Due.sentence("16: BAD");
        Look.refused("comes", BAD, x -> x.comes(8, 130, 1), x -> x.comes(-1, 130, 1), x -> x.comes(MIN, 130, 1),
                x -> x.comes(MAX, 130, 1), x -> x.comes(7, -1, 1), x -> x.comes(7, 401, 1),
                x -> x.comes(7, 130, 0), x -> x.comes(7, 130, 10), x -> x.comes(7, 130, -1),
                x -> x.comes(0, 401, 1), x -> x.comes(0, 130, 0));
        Look.taken("comes", x -> x.comes(7, 130, 1), x -> x.comes(7, 130, 9), x -> x.comes(7, 0, 9),
                x -> x.comes(1, 20, 9));
        ButterChurn x = Due.told("cow 1 50;drops 0 0 0 9;grain 3;beat 0 0;");
        Due.is("comes(1, 0, 1)", x.comes(1, 0, 1), 1);
        Due.is("comes(1, 400, 9)", x.comes(1, 400, 9), 1);
        Due.is("comes(2, 130, 1)", x.comes(2, 130, 1), BAD);
    }

    private static void comesFirst() {
        Due.sentence("16: how many TURNS a RUN takes till it has COME: the first");
        ButterChurn x = Due.told("cow 1 50;soft 130 1;drops 8 0 0 1;grain 3;beat 0 0;");
        Due.is("comes(1, 130, 1)", x.comes(1, 130, 1), 1);
        Due.is("comes by beat 50", Due.told("cow 1 50;soft 130 1;drops 0 0 5 1;grain 3;beat 50 0;")
                .comes(1, 130, 8), 1);
        Due.is("comes by beat 50, a pace less", Due.told("cow 1 50;soft 130 1;drops 0 0 5 1;grain 3;beat 50 0;")
                .comes(1, 130, 7), 2);
    }

    private static void comesLast() {
        Due.sentence("16: (400 at most); NONE");
        ButterChurn x = Due.told("cow 1 50;cow 1 49;soft 130 1;heat 99;" + FIVE);
        Due.is("comes in the 400th", x.comes(1, 130, 1), 400);
        Due.is("comes in the 401st", x.comes(2, 130, 1), NONE);
        Due.is("comes by pace 2", x.comes(2, 130, 2), 201);
        Due.is("run of 400, COME", x.run(1, 130, 1, 400, 5), 399);
        Due.is("run of 399, COME", x.run(1, 130, 1, 399, 5), NONE);
        Due.is("run of 400 of the other, COME", x.run(2, 130, 1, 400, 5), NONE);
        // It would in the TURN behind.
        x.fill(2, 130);
        x.turn(400, 1);
        Due.is("now(5) behind 400", x.now(5), NONE);
        x.turn(1, 1);
        Due.is("now(5) behind 401", x.now(5), 400);
    }

    private static void comesNever() {
        Due.sentence("16: NONE: none there, SWOLLEN, all hard, all soft");
        Due.is("of none", Look.full().comes(0, 130, 9), NONE);
        Due.is("of no cows", new ButterChurn().comes(0, 130, 9), NONE);
        Due.is("SWOLLEN", Due.told("cow 10 50;churn 10;drops 0 0 0 9;grain 3;").comes(1, 130, 9), NONE);
        Due.is("SWOLLEN by air", Due.told("cow 9 50;churn 10;beat 50 99;").comes(1, 130, 9), NONE);
        ButterChurn x = Due.told("cow 9 50;churn 400;beat 50 0;heat 99;soft 200 99;drops 99 0 0 0;");
        Due.is("all soft", x.comes(1, 251, 9), NONE);
        Due.is("all hard", Due.told("cow 9 100;churn 400;beat 50 0;soft 400 1;drops 99 0 0 0;").comes(1, 0, 9), NONE);
        Due.is("half hard, half soft", x.comes(1, 200, 9) > 0 ? 1 : 0, 1);
        // Just part soft, part hard: HARDNESS 1 and 99 come, by RATE 3.
        String text = "cow 50 1;cow 50 99;drops 0 0 99 0;grain 3;beat 50 0;soft 130 1;heat 99;churn 400;";
        ButterChurn just = Due.told(text);
        for (int cows = 1; cows <= 2; cows++) {
            int came = just.comes(cows, 130, 9);
            Due.is("whether it comes by RATE 3", came > 0 ? 1 : 0, 1);
            just.fill(cows, 130);
            just.turn(came - 1, 9);
            Due.is("now(5), a TURN less", just.now(5), NONE);
            just.turn(1, 9);
            Due.is("now(5)", just.now(5), came - 1);
        }
    }

    // ---- promise 17

    private static void planCows() {
        Due.sentence("17: COWS: BAD");
        Look.refused("plan", BAD, x -> x.plan(8, 0), x -> x.plan(-1, 0), x -> x.plan(256, 3), x -> x.plan(MAX, 0),
                x -> x.plan(MIN, 0));
        Look.taken("plan", x -> x.plan(7, 0), x -> x.plan(1, 0), x -> x.plan(2, 0));
    }

    private static void planWhat() {
        Due.sentence("17: 0 WARMTH, 1 PACE, 2 TURNS, 3 LEFT; BAD");
        Look.refused("plan", BAD, x -> x.plan(7, -1), x -> x.plan(7, 4), x -> x.plan(0, 4), x -> x.plan(0, -1),
                x -> x.plan(7, MAX), x -> x.plan(7, MIN));
        Look.taken("plan", x -> x.plan(7, 0), x -> x.plan(7, 1), x -> x.plan(7, 2), x -> x.plan(7, 3));
    }

    private static void planNone() {
        Due.sentence("17: NONE: by none");
        for (int what = 0; what < 4; what++) {
            Due.is("plan of none", Look.full().plan(0, what), NONE);
            Due.is("plan of no cows", new ButterChurn().plan(0, what), NONE);
            Due.is("plan of SWOLLEN", Due.told("cow 10 50;churn 10;").plan(1, what), NONE);
        }
        plan("cow 1 50;drops 0 0 0 9;grain 3;beat 0 0;soft 0 1;heat 99;good 60 90;", NONE);
    }

    private static void planOfEach() {
        Due.sentence("17: a PLAN for COWS: by itself, whatever was asked ahead");
        // The second is too hard to come, and by none nothing comes.
        ButterChurn x = Due.told("cow 1 50;cow 1 100;drops 0 0 0 4;grain 4;beat 10 0;soft 130 1;heat 99;");
        int[] due = {0, 9, 6, 16};
        for (int i = 0; i < 2; i++) {
            for (int what = 0; what < 4; what++) {
                Due.is("plan(1, " + what + ")", x.plan(1, what), due[what]);
                Due.is("plan(0, " + what + ")", x.plan(0, what), NONE);
                Due.is("plan(2, " + what + ")", x.plan(2, what), NONE);
            }
        }
        String text = "cow 1 43;drops 17 6 8 6;soft 200 50;beat 50 0;grain 4;heat 99;churn 400;";
        ButterChurn y = Due.told("cow 2 43;" + text);
        Due.is("plan(2, 3)", y.plan(2, 3), 29);
        int both = y.plan(3, 3);
        Due.is("whether plan(3, 3) is of three litres", both > 29 ? 1 : 0, 1);
        Due.is("plan(2, 3), once more", y.plan(2, 3), 29);
    }

    private static void planLastTurn() {
        Due.sentence("17: that COMES (within 400 TURNS)");
        // By pace 1 it is eleven warmer in the 400th TURN: 60 less 10 is 50, and only so.
        plan("cow 1 60;soft 200 99;heat 36;good 50 50;" + FIVE, 200, 1, 400, 12);
        // By 51 it comes in the 401st.
        plan("cow 1 61;soft 200 99;heat 36;good 51 51;" + FIVE, NONE);
        ButterChurn x = Due.told("cow 1 61;soft 200 99;heat 36;good 51 51;" + FIVE);
        x.fill(1, 200);
        x.turn(400, 1);
        Due.is("now(5) behind 400", x.now(5), NONE);
        x.turn(1, 1);
        Due.is("now(5) behind 401", x.now(5), 400);
        Due.is("now(2) behind 401", x.now(2), 51);
    }

    private static void planHardness() {
        Due.sentence("17: HARDNESS behind the TURN in which it COMES (with WARMTH as it is then) low to high");
        // At 300 and a pace p more: 50 less p times 0.99, divided down.
        String text = "cow 1 50;drops 0 0 0 9;grain 3;soft 300 99;beat 0 0;heat 1;";
        plan(text + "good 45 45;", 300, 6, 1, 0);
        plan(text + "good 44 45;", 300, 6, 1, 0);
        plan(text + "good 44 44;", 300, 7, 1, 0);
        plan(text + "good 45 46;", 300, 5, 1, 0);
        plan(text + "good 50 50;", 300, 1, 1, 0);
        plan(text + "good 42 42;", 300, 9, 1, 0);
        // 280 and 9 are 11 less: 61. Between 42 and 61 there is none.
        plan(text + "good 51 60;", NONE);
        plan(text + "good 61 61;", 280, 9, 1, 0);
        plan(text + "good 31 41;", NONE);
        // Behind the second TURN, which heats: not as it was in it.
        plan("cow 1 50;drops 0 0 5 1;grain 3;soft 300 99;beat 50 0;heat 2;good 44 44;", 300, 7, 2, 12);
    }

    private static void planLeastLeft() {
        Due.sentence("17: with the least LEFT in the TURN in which it COMES");
        // Others come in three TURNS, with 45 left.
        String text = "cow 1 43;drops 17 6 8 6;soft 200 50;beat 50 0;grain 4;heat 99;churn 400;";
        plan(text, 180, 3, 6, 29);
        ButterChurn x = Due.told(text);
        Due.is("comes(1, 160, 8)", x.comes(1, 160, 8), 3);
        Due.is("what is left then", x.run(1, 160, 8, 3, 6), 45);
        // Behind the TURN in which it COMES less would be left.
        Due.is("what is left ten TURNS on", x.run(1, 160, 8, 13, 6) < 29 ? 1 : 0, 1);
    }

    private static void planFewestTurns() {
        Due.sentence("17: of several the fewest TURNS");
        // Two of four join by RATE 50: HARDNESS 50 with AIR 504, others more.
        plan("cow 1 100;drops 0 0 0 4;soft 0 25;beat 1 0;grain 4;heat 99;", 200, 9, 56, 16);
        plan("cow 1 50;drops 0 0 0 4;grain 4;beat 10 0;soft 130 1;heat 99;", 0, 9, 6, 16);
    }

    private static void planLeastWarmth() {
        Due.sentence("17: then the least WARMTH");
        String text = "cow 1 50;drops 0 0 0 9;grain 3;soft 300 99;beat 0 0;heat 1;";
        // 280 by pace 9 alone, 300 by pace 1, too.
        plan(text + "good 40 61;", 280, 9, 1, 0);
        plan(text + "good 40 60;", 300, 1, 1, 0);
    }

    private static void planLeastPace() {
        Due.sentence("17: .., then PACE");
        plan("cow 1 50;drops 0 0 0 9;grain 3;soft 130 1;beat 0 0;", 0, 1, 1, 0);
        plan("cow 1 50;drops 0 0 0 9;grain 3;soft 300 99;beat 0 0;heat 1;good 1 44;", 300, 7, 1, 0);
    }

    private static void planEnds() {
        Due.sentence("17: WARMTH 0, 20, .. 400, PACE 1 to 9: the first, the last");
        String text = "cow 1 50;drops 0 0 0 9;grain 3;beat 0 0;heat 1;";
        // Base 400: at 400 it stays 50; base 380: at 400 it is 31, of 20 times 0.99.
        plan(text + "soft 400 99;good 50 50;", 400, 1, 1, 0);
        plan(text + "soft 380 99;good 31 31;", 400, 1, 1, 0);
        plan(text + "soft 380 99;good 30 30;", NONE);
        plan(text + "soft 0 99;good 50 50;", 0, 1, 1, 0);
        plan(text + "soft 0 99;good 42 42;", 0, 9, 1, 0);
        plan(text + "soft 0 99;good 41 41;", NONE);
        plan(text + "soft 0 99;good 51 99;", NONE);
    }

    // ---- promise 18

    private static void without(String text, int many, int bits) {
        ButterChurn x = Due.told(text);
        Due.is("without(0) of " + text, x.without(0), many);
        Due.is("without(1) of " + text, x.without(1), bits);
    }

    private static void withoutWhat() {
        Due.sentence("18: how many (what 0), these (1); BAD");
        Look.refused("without", BAD, x -> x.without(-1), x -> x.without(2), x -> x.without(MAX),
                x -> x.without(MIN));
        Due.is("without(2) of no cows", new ButterChurn().without(2), BAD);
        Look.taken("without", x -> x.without(0), x -> x.without(1));
    }

    private static void withoutNone() {
        Due.sentence("18: and some are there; NONE");
        without("", NONE, NONE);
        without("good 0 100;", NONE, NONE);
        // HARD of none is 0, but there are none.
        without("cow 10 50;good 0 0;", NONE, NONE);
        without("cow 10 50;cow 20 60;cow 30 70;good 0 49;", NONE, NONE);
        without("cow 10 50;cow 20 60;cow 30 70;good 71 100;", NONE, NONE);
    }

    private static void withoutLowToHigh() {
        Due.sentence("18: HARD of the others is low to high");
        without("cow 10 50;good 50 50;", 0, 0);
        without("cow 10 50;good 50 99;", 0, 0);
        without("cow 10 50;good 0 50;", 0, 0);
        without("cow 10 50;good 51 51;", NONE, NONE);
        without("cow 10 50;good 49 49;", NONE, NONE);
        without("cow 10 0;good 0 0;", 0, 0);
        without("cow 10 100;good 100 100;", 0, 0);
        // 101 by 2, divided down; 50 litres weigh more than one.
        without("cow 10 50;cow 10 51;good 50 50;", 0, 0);
        without("cow 1 0;cow 50 51;good 50 50;", 0, 0);
        without("cow 1 0;cow 50 50;good 50 50;", 1, 1);
    }

    private static void withoutFewest() {
        Due.sentence("18: the fewest COWS to be left out; of several the least");
        without("cow 10 40;cow 10 40;cow 10 70;good 55 55;", 1, 1);
        // One of bits 4 is fewer than two of bits 3, which leave 50, too.
        without("cow 10 60;cow 10 70;cow 10 80;cow 10 20;good 50 50;", 1, 4);
        without("cow 10 30;cow 10 30;cow 10 30;good 30 30;", 0, 0);
        without("cow 10 90;cow 10 30;cow 10 95;good 30 30;", 2, 5);
        ButterChurn x = Due.told("cow 10 50;cow 10 50;good 40 60;");
        x.feeds(1, 100);
        Due.is("without(1) behind feeds()", x.without(1), 2);
    }

    private static void withoutOfEight() {
        Due.sentence("18: COWS (8 at most): all but the first, all but the last");
        without("cow 1 0;".repeat(7) + "cow 1 9;good 9 9;", 7, 127);
        without("cow 1 9;" + "cow 1 0;".repeat(7) + "good 9 9;", 7, 254);
        without("cow 1 9;".repeat(8) + "good 9 9;", 0, 0);
        without("cow 1 9;".repeat(8) + "good 8 8;", NONE, NONE);
        without("cow 1 0;".repeat(7) + "cow 1 80;good 0 9;", 1, 128);
    }

    // ---- promises 19 and 20

    private static void sawTurns() {
        Due.sentence("19: so many TURNS (0 to 400); BAD");
        Look.refused("saw", BAD, x -> x.saw(7, -1), x -> x.saw(7, 401), x -> x.saw(0, 401), x -> x.saw(7, MAX),
                x -> x.saw(7, MIN));
        ButterChurn x = Look.full();
        Due.is("saw(7, 0)", x.saw(7, 0), 3);
        Due.is("saw(7, 400)", x.saw(7, 400), 4);
        Due.is("count(1)", x.count(1), 4);
    }

    private static void sawCows() {
        Due.sentence("19: a RUN of COWS: BAD");
        Look.refused("saw", BAD, x -> x.saw(8, 5), x -> x.saw(-1, 5), x -> x.saw(256, 5), x -> x.saw(MAX, 5),
                x -> x.saw(MIN, 5));
        Due.is("saw(1, 0) of no cows", new ButterChurn().saw(1, 0), BAD);
        Due.is("saw(0, 0) of no cows", new ButterChurn().saw(0, 0), 1);
        ButterChurn x = Due.told("cow 1 1;".repeat(8));
        Due.is("saw(255, 1)", x.saw(255, 1), 1);
        Due.is("saw(256, 1)", x.saw(256, 1), BAD);
    }

    private static ButterChurn eightSeen() {
        ButterChurn x = Look.full();
        for (int i = 3; i <= 8; i++) {
            Due.is("saw, number " + i, x.saw(0, 0), i);
        }
        return x;
    }

    private static void sawFull() {
        Due.sentence("19: SEEN (8 at most): how many there are; FULL; BAD ahead of it");
        Look.refused("saw the ninth", RunsEdgesTest::eightSeen, ButterChurn.FULL, x -> x.saw(0, 0),
                x -> x.saw(7, 400), x -> x.saw(0, 1));
        Look.refused("saw the ninth, BAD", RunsEdgesTest::eightSeen, BAD, x -> x.saw(8, 0), x -> x.saw(0, 401));
        ButterChurn x = eightSeen();
        Due.is("count(1)", x.count(1), 8);
    }

    private static void forgotten() {
        Due.sentence("20: what was SEEN is forgotten: how many there were");
        Due.is("forget() of nothing", new ButterChurn().forget(), 0);
        ButterChurn x = eightSeen();
        Due.is("forget() of eight", x.forget(), 8);
        Due.is("forget(), once more", x.forget(), 0);
        Due.is("count(1)", x.count(1), 0);
        seen(x, 189, 0, 1);
        Due.is("saw(7, 1)", x.saw(7, 1), 1);
        Due.is("forget() of one", x.forget(), 1);
    }

    // ---- promise 21

    private static void whyWhat() {
        Due.sentence("21: how many ways (what 0), its WARMTH (1), PACE (2); BAD");
        Look.refused("why", BAD, x -> x.why(-1), x -> x.why(3), x -> x.why(MAX), x -> x.why(MIN));
        Due.is("why(3) of nothing seen", new ButterChurn().why(3), BAD);
        Look.taken("why", x -> x.why(0), x -> x.why(1), x -> x.why(2));
    }

    private static void whyNothingSeen() {
        Due.sentence("21: WHAT IT CAN BE: all ways, if nothing was SEEN");
        seen(new ButterChurn(), 189, 0, 1);
        seen(Due.told("cow 5 50;"), 189, 0, 1);
    }

    private static void whyNone() {
        Due.sentence("21: NONE: there is no way; how many: 0");
        ButterChurn x = Due.told("cow 1 50;drops 0 0 0 9;grain 3;beat 0 0;");
        x.saw(1, 1);
        seen(x, 189, 0, 1);
        x.saw(1, 2);
        seen(x, 0, NONE, NONE);
        x.forget();
        x.saw(1, 0);
        seen(x, 0, NONE, NONE);
        x.forget();
        x.saw(0, 0);
        seen(x, 189, 0, 1);
        x.saw(0, 400);
        seen(x, 0, NONE, NONE);
    }

    private static void whyNotWithin() {
        Due.sentence("21: so many TURNS, as comes() tells (0: not within 400)");
        // By pace 1 the second comes in the 400th at WARMTH 140 to 220, else in the 401st.
        ButterChurn x = Due.told("cow 1 49;cow 1 50;soft 140 1;heat 99;" + FIVE);
        x.saw(2, 400);
        seen(x, 5, 140, 1);
        // There the first comes in the 401st.
        x.saw(1, 0);
        seen(x, 5, 140, 1);
        x.forget();
        x.saw(2, 0);
        seen(x, 16, 0, 1);
        x.forget();
        // By 51 at 100 colder the first is 50; it is 49 and less from 140 on.
        x.saw(1, 400);
        seen(x, 5, 40, 1);
        x.saw(2, 399);
        seen(x, 0, NONE, NONE);
    }

    private static void whyAllOfEight() {
        Due.sentence("21: by which all RUNS with those COWS are so: each of the eight");
        for (int i = 0; i < 8; i++) {
            ButterChurn x = new ButterChurn();
            for (int k = 0; k < 8; k++) {
                x.saw(0, k == i ? 1 : 0);
            }
            seen(x, 0, NONE, NONE);
        }
        ButterChurn x = Due.told("cow 1 49;cow 1 50;soft 140 1;heat 99;" + FIVE);
        for (int k = 0; k < 7; k++) {
            x.saw(1, 0);
        }
        x.saw(2, 400);
        seen(x, 5, 140, 1);
    }

    private static void whyFirst() {
        Due.sentence("21: the first by WARMTH, then PACE");
        // Seven TURNS: at 0 (HARDNESS 80, AIR 625 or more) by pace 9, at 20 (75, AIR 534) by pace 8.
        ButterChurn x = Due.told("cow 1 80;soft 0 25;heat 99;drops 0 0 5 1;grain 3;beat 10 0;");
        x.saw(1, 7);
        Due.is("why(1)", x.why(1), 0);
        Due.is("why(2)", x.why(2), 9);
        Due.is("comes(1, 20, 8), a way, too", x.comes(1, 20, 8), 7);
        Due.is("comes(1, 0, 8), no way", x.comes(1, 0, 8), 8);
        int ways = 0;
        for (int warm = 0; warm <= 400; warm += 20) {
            ButterChurn y = Due.told("cow 1 80;soft 0 25;heat 99;drops 0 0 5 1;grain 3;beat 10 0;");
            for (int pace = 1; pace <= 9; pace++) {
                ways += comesByTurning(y, 1, warm, pace) == 7 ? 1 : 0;
            }
        }
        Due.is("why(0)", x.why(0), ways);
        // Of one WARMTH the least PACE: 400 in all of 140 to 220 by pace 1, 200 by pace 2.
        ButterChurn z = Due.told("cow 1 50;soft 200 1;drops 0 0 0 9;grain 3;beat 0 0;");
        z.saw(1, 1);
        seen(z, 189, 0, 1);
    }

    private static void whyEnds() {
        Due.sentence("21: WARMTH 0, 20, .. 400, PACE 1 to 9: the first, the last");
        // At 380 it is all hard; at 400 it is 81, and comes with AIR 650: in eight TURNS by pace 9.
        ButterChurn last = Due.told("cow 1 100;soft 380 99;heat 99;drops 0 0 5 1;grain 3;beat 10 0;");
        last.saw(1, 8);
        seen(last, 1, 400, 9);
        // At 20 it is all soft; at 0 it is 20, and comes with AIR 625: in 63 TURNS by pace 1.
        ButterChurn first = Due.told("cow 1 0;soft 20 99;heat 99;drops 0 0 5 1;grain 3;beat 10 0;");
        first.saw(1, 63);
        seen(first, 1, 0, 1);
    }

    // ---- promise 22

    private static void next(ButterChurn x, int pace, int deed, int turns) {
        Due.is("next(" + pace + ", 0)", x.next(pace, 0), deed);
        Due.is("next(" + pace + ", 1)", x.next(pace, 1), turns);
    }

    private static void nextBounds() {
        Due.sentence("22: PACE (1 to 9), what 0, 1: BAD");
        Look.refused("next", BAD, x -> x.next(0, 0), x -> x.next(10, 0), x -> x.next(-1, 1), x -> x.next(MAX, 0),
                x -> x.next(MIN, 0), x -> x.next(1, -1), x -> x.next(1, 2), x -> x.next(9, MAX),
                x -> x.next(9, MIN));
        Look.taken("next", x -> x.next(1, 0), x -> x.next(9, 0), x -> x.next(1, 1), x -> x.next(9, 1));
    }

    private static void nextState() {
        Due.sentence("22: STATE: it has COME; BAD ahead of it");
        Look.refused("next", Look::come, ButterChurn.STATE, x -> x.next(1, 0), x -> x.next(9, 1));
        Look.refused("next", Look::come, BAD, x -> x.next(0, 0), x -> x.next(10, 1), x -> x.next(1, 2));
        ButterChurn x = Due.told("cow 1 50;drops 0 0 0 9;grain 3;beat 0 0;");
        next(x, 1, 0, 1);
        x.turn(1, 1);
        next(x, 1, ButterChurn.STATE, ButterChurn.STATE);
        x.fill(1, 130);
        next(x, 1, 0, 1);
    }

    private static void nextNone() {
        Due.sentence("22: NONE");
        next(new ButterChurn(), 1, NONE, NONE);
        next(Due.told("cow 20 50;churn 10;beat 0 0;drops 9 0 0 0;"), 9, NONE, NONE);
        next(Due.told("cow 1 50;churn 400;beat 0 0;drops 9 0 0 0;"), 9, NONE, NONE);
    }

    private static void nextWithin() {
        Due.sentence("22: soonest by a PACE (within 400 TURNS)");
        // HARDNESS 50, warmer, too; by 49 in the 401st, but 20 less make it 50.
        next(Due.told("cow 1 50;soft 130 1;heat 99;" + FIVE), 1, 0, 400);
        next(Due.told("cow 1 49;soft 130 1;heat 99;" + FIVE), 1, 3, 400);
        // By 51 and 52 in the 401st.
        next(Due.told("cow 1 51;soft 130 1;heat 99;" + FIVE), 1, NONE, NONE);
        // From now on: one TURN ahead was by AIR 1, by any PACE.
        ButterChurn x = Due.told("cow 1 51;soft 130 1;heat 99;" + FIVE);
        x.turn(1, 1);
        next(x, 1, 0, 400);
        x.turn(399, 1);
        next(x, 1, 0, 1);
    }

    private static void nextFirstOfSeveral() {
        Due.sentence("22: of several the first (what 0), TURNS (1)");
        // All four come at once.
        next(Due.told("cow 10 50;drops 0 0 0 9;grain 3;beat 0 0;churn 20;"), 5, 0, 1);
        // SWOLLEN but for half of it out.
        next(Due.told("cow 10 50;drops 0 0 0 9;grain 3;beat 0 0;churn 10;"), 5, 1, 1);
        // At 400 it can be no warmer, at 0 no colder: as nothing, which is ahead.
        next(Due.told("cow 1 80;soft 400 99;heat 99;beat 10 0;drops 0 0 5 1;grain 3;"), 1, 0, 63);
        next(Due.told("cow 1 20;soft 0 99;heat 99;beat 10 0;drops 0 0 5 1;grain 3;"), 1, 0, 63);
        // Half out (16 of 32 are grains then) and warmer (RATE 44, two of six join) are as soon.
        ButterChurn x = Due.told("cow 1 100;drops 5 2 6 4;grain 3;soft 100 99;beat 50 0;heat 99;");
        x.warm(124);
        next(x, 9, 1, 1);
        Due.is("comes(1, 144, 9)", x.comes(1, 144, 9), 1);
        Due.is("whether comes(1, 124, 9) is later", x.comes(1, 124, 9) > 1 ? 1 : 0, 1);
        // HARDNESS 50 at 130, on either side less.
        next(Due.told("cow 1 50;soft 130 99;heat 99;beat 10 0;drops 0 0 5 1;grain 3;"), 1, 0, 40);
    }

    private static void nextWarmest() {
        Due.sentence("22: 2 WARMTH 20 more (as far as it can be)");
        String text = "cow 1 100;soft 390 99;beat 10 0;drops 0 0 7 2;grain 3;heat 99;";
        // By RATE 29 two of seven join: HARDNESS 91 at 400 with AIR 886, 76 at 415 with 398.
        ButterChurn x = Due.told(text);
        x.warm(395);
        next(x, 1, 2, 89);
        x.warm(381);
        next(x, 1, 2, 89);
        x.warm(400);
        next(x, 1, 0, 89);
        // From 380 on 20 more are 400, from 379 on 399: HARDNESS 92 is 29.4 by AIR 986.
        x.warm(380);
        next(x, 1, 2, 89);
        x.warm(379);
        next(x, 1, 2, 99);
        Due.is("now(1), as it was", x.now(1), 379);
    }

    private static void nextColdest() {
        Due.sentence("22: 3 20 less (as far as it can be)");
        String text = "cow 1 0;soft 10 99;beat 10 0;drops 0 0 7 2;grain 3;heat 99;";
        // HARDNESS 10 at 0 with AIR 806, 20 at 10 below it with 454.
        ButterChurn x = Due.told(text);
        x.warm(10);
        next(x, 1, 3, 81);
        x.warm(20);
        next(x, 1, 3, 81);
        // 1 is HARDNESS 9: 819 by 25 times 886.
        x.warm(21);
        next(x, 1, 3, 89);
        x.warm(0);
        next(x, 1, 0, 81);
        Due.is("now(1), as it was", x.now(1), 0);
    }

    private static void nextHalf() {
        Due.sentence("22: 1 half out: litres, AIR, drops of each CLASS");
        // Ten litres of ten are SWOLLEN; half of them hold AIR 500 by swell 1.
        ButterChurn x = Due.told("cow 10 50;churn 10;soft 130 1;beat 50 1;heat 99;drops 0 0 0 4;grain 4;");
        Due.is("next(9, 0)", x.next(9, 0), 1);
        Due.is("now(0), as it was", x.now(0), 10);
        int turns = x.next(9, 1);
        x.half();
        Due.is("next(9, 1) of what was halved", x.next(9, 1), turns);
        x.turn(turns, 9);
        Due.is("now(5)", x.now(5), turns - 1);
    }

    // ---- promise 23

    private static void overBounds() {
        Due.sentence("23: by a PACE (1 to 9): BAD");
        Look.refused("over", Look::come, BAD, x -> x.over(0), x -> x.over(10), x -> x.over(-1), x -> x.over(MAX),
                x -> x.over(MIN));
        ButterChurn x = Due.told("cow 50 50;drops 0 0 0 99;grain 3;beat 0 0;");
        x.turn(1, 1);
        Due.is("whether over(1) is", x.over(1) > 0 ? 1 : 0, 1);
        Due.is("whether over(9) is sooner", x.over(9) > 0 && x.over(9) < x.over(1) ? 1 : 0, 1);
    }

    private static void overState() {
        Due.sentence("23: STATE: it has not COME; BAD ahead of it");
        Look.refused("over", ButterChurn.STATE, x -> x.over(1), x -> x.over(9));
        Look.refused("over", BAD, x -> x.over(0), x -> x.over(10));
        Due.is("over(1) of a new one", new ButterChurn().over(1), ButterChurn.STATE);
        ButterChurn x = Due.told("cow 1 50;drops 0 0 0 71;grain 3;beat 0 0;");
        Due.is("over(5) ahead of the TURN", x.over(5), ButterChurn.STATE);
        x.turn(1, 5);
        Due.is("over(5) behind it", x.over(5), 3);
        x.fill(1, 130);
        Due.is("over(5), filled anew", x.over(5), ButterChurn.STATE);
    }

    private static void overAlready() {
        Due.sentence("23: nine of ten or more of all (0: it is)");
        // 9 of CLASS 6 are 576: just nine of ten of 640.
        int[] small = {64, 65};
        for (int n : small) {
            ButterChurn x = Due.told("cow 1 50;beat 0 0;drops " + n + " 0 0 72;grain 3;");
            x.turn(1, 5);
            Due.is("over(5) of " + n, x.over(5), n == 64 ? 3 : 6);
            x.turn(2, 5);
            Due.is("over(5) of " + n + ", two TURNS on", x.over(5), n == 64 ? 1 : 4);
            x.turn(1, 5);
            Due.is("over(5) of " + n + ", three TURNS on", x.over(5), n == 64 ? 0 : 3);
        }
        // All of it gone.
        ButterChurn none = Due.told("cow 1 50;beat 0 0;drops 0 0 0 1;grain 3;");
        none.turn(1, 1);
        Due.is("over(1) of what stays", none.over(1), NONE);
        none.half();
        Due.is("over(1) of nothing", none.over(1), 0);
    }

    private static void overNever() {
        Due.sentence("23: NONE: not within 400");
        // One of CLASS 6 is 64 of 72, and of 71.
        for (int small = 7; small <= 8; small++) {
            ButterChurn never = Due.told("cow 1 50;beat 0 0;drops " + small + " 0 0 8;grain 3;");
            never.turn(1, 1);
            for (int pace = 1; pace <= 9; pace++) {
                Due.is("over(" + pace + ") of " + small, never.over(pace), small == 7 && pace >= 5 ? 3 : NONE);
            }
        }
        // By pace 1 nine of a class stay, by pace 5 one: 71 of CLASS 3 do it by pace 5.
        ButterChurn x = Due.told("cow 1 50;beat 0 0;drops 0 0 0 71;grain 3;");
        x.turn(1, 1);
        Due.is("over(1)", x.over(1), NONE);
        Due.is("over(5)", x.over(5), 3);
    }

    private static void overFewest() {
        Due.sentence("23: the fewest TURNS by a PACE from now on behind which FAT in CLASS 6 is so");
        ButterChurn x = Due.told("cow 50 50;drops 7 9 0 99;grain 3;beat 0 0;churn 400;");
        x.turn(3, 2);
        x.keep(0);
        for (int pace = 1; pace <= 9; pace++) {
            x.back(0);
            int due = x.over(pace);
            for (int n = 0; n < due; n++) {
                Due.is("whether it is, " + n + " by pace " + pace, overdone(x), 0);
                x.turn(1, pace);
            }
            Due.is("whether it is, " + due + " by pace " + pace, due > 0 ? overdone(x) : due, 1);
            Due.is("over(" + pace + ") then", x.over(pace), 0);
        }
    }

    private static int overdone(ButterChurn x) {
        return 10 * 64 * x.drops(6) >= 9 * x.now(7) ? 1 : 0;
    }
}
