/** Promises 15 to 23: runs, plans, cows left out, what was seen, what to do now, overdone. */
public final class RunsTest {
    private static final String SOME =
            "cow 10 40;cow 20 60;cow 5 90;churn 200;soft 130 12;beat 9 15;heat 7;good 30 60;grain 4;";

    private RunsTest() {
    }

    public static void main(String[] args) {
        runsByThemselves();
        runsAreTurns();
        comesWithin();
        plans();
        plansOfSeveral();
        leftOut();
        seen();
        ways();
        nextDeeds();
        nextTurns();
        overdone();
        Due.end("RunsTest");
    }

    private static void runsByThemselves() {
        ButterChurn x = Due.told(SOME);
        x.turn(3, 3);
        x.keep(0);
        int[] before = new int[10];
        for (int what = 0; what < 10; what++) {
            before[what] = x.now(what);
        }
        x.run(5, 100, 9, 400, 3);
        x.comes(7, 100, 9);
        x.plan(7, 0);
        x.next(9, 0);
        x.why(0);
        for (int what = 0; what < 10; what++) {
            Due.is("now(" + what + ") behind runs", x.now(what), before[what]);
        }
        Due.is("count(1) behind runs", x.count(1), 0);
    }

    private static void runsAreTurns() {
        ButterChurn x = Due.told(SOME);
        int[] many = {0, 1, 6, 7, 20, 60, 400};
        for (int n : many) {
            x.fill(5, 110);
            if (n > 0) {
                x.turn(n, 6);
            }
            for (int what = 0; what < 10; what++) {
                Due.is("run(5, 110, 6, " + n + ", " + what + ")", x.run(5, 110, 6, n, what), x.now(what));
            }
            for (int k = 0; k < 7; k++) {
                Due.is("run of drops " + k, x.run(5, 110, 6, n, 10 + k), x.drops(k));
            }
        }
        int[][] bad = {{8, 0, 1, 1, 0}, {-1, 0, 1, 1, 0}, {7, -1, 1, 1, 0}, {7, 401, 1, 1, 0},
            {7, 0, 0, 1, 0}, {7, 0, 10, 1, 0}, {7, 0, 1, -1, 0}, {7, 0, 1, 401, 0}, {7, 0, 1, 1, -1},
            {7, 0, 1, 1, 17}, {7, 0, 1, Integer.MAX_VALUE, 0}};
        for (int[] a : bad) {
            Due.is("bad run", x.run(a[0], a[1], a[2], a[3], a[4]), ButterChurn.BAD);
        }
        Due.is("run(0, 400, 9, 400, 7)", x.run(0, 400, 9, 400, 7), 0);
    }

    private static void comesWithin() {
        ButterChurn x = Due.told("cow 1 0;drops 0 0 0 9;grain 3;");
        Due.is("comes(1, 0, 1)", x.comes(1, 0, 1), 1);
        Due.is("comes(0, 0, 1)", x.comes(0, 0, 1), ButterChurn.NONE);
        int[][] bad = {{2, 0, 1}, {-1, 0, 1}, {1, -1, 1}, {1, 401, 1}, {1, 0, 0}, {1, 0, 10}};
        for (int[] a : bad) {
            Due.is("bad comes", x.comes(a[0], a[1], a[2]), ButterChurn.BAD);
        }
        // As the churn itself: one more than the turn in which it comes.
        ButterChurn y = Due.told(SOME);
        int came = y.comes(7, 160, 4);
        y.fill(7, 160);
        y.turn(came - 1, 4);
        Due.is("now(5), a turn too few", y.now(5), ButterChurn.NONE);
        y.turn(1, 4);
        Due.is("now(5)", y.now(5), came - 1);
        Due.is("comes of a swollen churn", Due.told("cow 50 50;churn 50;").comes(1, 130, 9), ButterChurn.NONE);
        lateComes();
    }

    /** The 400th turn is the last that counts, of a run and from now on. */
    private static void lateComes() {
        // Of four drops two join when RATE is 50, and are half of the fat: AIR 500, so turn 250 by
        // pace 2, and turn 500 by pace 1.
        ButterChurn x = Due.told("cow 1 50;drops 0 0 0 4;grain 4;beat 1 0;soft 130 1;heat 99;");
        Due.is("comes by pace 2", x.comes(1, 130, 2), 250);
        Due.is("comes by pace 1", x.comes(1, 130, 1), ButterChurn.NONE);
        Due.is("next(1, 0): 500 turns are too many", x.next(1, 0), ButterChurn.NONE);
        x.turn(99, 1);
        Due.is("next(1, 1): 401 turns", x.next(1, 1), ButterChurn.NONE);
        x.turn(1, 1);
        Due.is("next(1, 1): 400 turns", x.next(1, 1), 400);
        Due.is("next(1, 0): nothing", x.next(1, 0), 0);
        // Of five drops two join when RATE is 40: in the 400th turn, with too little fat.
        ButterChurn y = Due.told("cow 1 50;drops 0 0 0 5;grain 4;beat 1 0;soft 130 1;heat 99;");
        Due.is("run(1, 130, 1, 399, 13)", y.run(1, 130, 1, 399, 13), 5);
        Due.is("run(1, 130, 1, 400, 13)", y.run(1, 130, 1, 400, 13), 3);
        Due.is("comes(1, 130, 1)", y.comes(1, 130, 1), ButterChurn.NONE);
        // Hardness 1 is enough, with many drops: RATE 3 at most.
        ButterChurn hardly = Due.told("cow 50 1;drops 0 0 99 0;grain 3;beat 50 0;soft 130 1;heat 99;churn 400;");
        int came = hardly.comes(1, 130, 9);
        Due.is("whether it comes by hardness 1", came > 0 ? 1 : 0, 1);
        Due.is("now(5) of that run", hardly.run(1, 130, 9, came, 5), came - 1);
        Due.is("now(5) of it, a turn less", hardly.run(1, 130, 9, came - 1, 5), ButterChurn.NONE);
        // Five drops of class 2 and one of 3: then there is just half, in the 400th turn.
        ButterChurn z = Due.told("cow 1 50;drops 0 0 5 1;grain 3;beat 1 0;soft 130 1;heat 99;");
        Due.is("comes in the 400th turn", z.comes(1, 130, 1), 400);
        Due.is("now(5) of that run", z.run(1, 130, 1, 400, 5), 399);
    }

    private static void plans() {
        ButterChurn x = Due.told(SOME);
        for (int cows = 0; cows < 8; cows++) {
            int[] best = bestPlan(40, cows, 30, 60);
            for (int what = 0; what < 4; what++) {
                Due.is("plan(" + cows + ", " + what + ")", x.plan(cows, what), best[what]);
            }
        }
        Due.is("plan(8, 0)", x.plan(8, 0), ButterChurn.BAD);
        Due.is("plan(-1, 0)", x.plan(-1, 0), ButterChurn.BAD);
        Due.is("plan(7, 4)", x.plan(7, 4), ButterChurn.BAD);
        Due.is("plan(7, -1)", x.plan(7, -1), ButterChurn.BAD);
        Due.is("plan(0, 0)", x.plan(0, 0), ButterChurn.NONE);
        x.feeds(0, 5);
        int[] best = bestPlan(5, 1, 30, 60);
        for (int what = 0; what < 4; what++) {
            Due.is("plan(1, " + what + ") behind feeds()", x.plan(1, what), best[what]);
        }
    }

    /** The best of all runs of an object whose first cow has another HARD; one object for each pace. */
    private static int[] bestPlan(int hard, int cows, int low, int high) {
        int[] best = {ButterChurn.NONE, ButterChurn.NONE, ButterChurn.NONE, ButterChurn.NONE};
        for (int pace = 9; pace > 0; pace--) {
            ButterChurn x = Due.told(SOME);
            x.feeds(0, hard);
            for (int warm = 400; warm >= 0; warm -= 20) {
                int turns = x.comes(cows, warm, pace);
                if (turns > 0) {
                    int hardness = x.run(cows, warm, pace, turns, 2);
                    int left = x.run(cows, warm, pace, turns, 6);
                    boolean less = best[3] < 0 || left < best[3] || left == best[3]
                            && (turns < best[2] || turns == best[2]
                            && (warm < best[0] || warm == best[0] && pace < best[1]));
                    if (less && hardness >= low && hardness <= high) {
                        best = new int[] {warm, pace, turns, left};
                    }
                }
            }
        }
        return best;
    }

    private static void plansOfSeveral() {
        // All come in their first turn with as much left: the least warmth, then pace.
        ButterChurn x = Due.told("cow 1 50;drops 0 0 0 9;grain 3;soft 130 1;beat 0 0;");
        int[] first = {0, 1, 1, 0};
        for (int what = 0; what < 4; what++) {
            Due.is("plan(1, " + what + ") of alike ones", x.plan(1, what), first[what]);
        }
        // Two of four drops join when RATE is 50, so as much is left by every pace: the fewest turns.
        ButterChurn z = Due.told("cow 1 50;drops 0 0 0 4;grain 4;beat 10 0;soft 130 1;heat 99;");
        int[] fewest = {0, 9, 6, 16};
        for (int what = 0; what < 4; what++) {
            Due.is("plan(1, " + what + ") of as much left", z.plan(1, what), fewest[what]);
        }
        // The hardness behind the turn: it is warmer by the pace then. 50 at 300; 45 wanted.
        ButterChurn y = Due.told("cow 1 50;drops 0 0 0 9;grain 3;soft 300 99;beat 0 0;heat 1;good 45 45;");
        // Warmth 300 and pace 6 make 6 times 99 by 100, divided down 5.
        int[] warmer = {300, 6, 1, 0};
        for (int what = 0; what < 4; what++) {
            Due.is("plan(1, " + what + ") of one hardness", y.plan(1, what), warmer[what]);
        }
        Due.is("plan of a hardness that is not met", Due.told(
                "cow 1 50;drops 0 0 0 9;grain 3;soft 300 99;beat 0 0;heat 1;good 40 40;").plan(1, 0),
                ButterChurn.NONE);
    }

    private static void leftOut() {
        ButterChurn none = new ButterChurn();
        Due.is("without(0) of no cows", none.without(0), ButterChurn.NONE);
        Due.is("without(1) of no cows", none.without(1), ButterChurn.NONE);
        Due.is("without(2)", none.without(2), ButterChurn.BAD);
        Due.is("without(-1)", none.without(-1), ButterChurn.BAD);
        without("cow 10 50;cow 10 60;good 20 80;", 0, 0);
        // 95, 90, 10, 20 of 10 litres each, by two 20 to 30: cow 2 and 3, or 3 alone, are good.
        without("cow 10 95;cow 10 90;cow 10 10;cow 10 20;good 15 20;", 2, 3);
        // One is enough, and of several the least bits.
        without("cow 10 50;cow 10 50;cow 10 80;good 65 65;", 1, 1);
        without("cow 10 10;cow 10 10;good 20 80;", ButterChurn.NONE, ButterChurn.NONE);
        // Of one cow and of two, one, though the bits of these two are less.
        without("cow 10 60;cow 10 70;cow 10 80;cow 10 20;good 50 50;", 1, 4);
        // Divided down: 20 and 21 by two is 20.
        without("cow 10 20;cow 10 21;good 20 20;", 0, 0);
        without("cow 1 0;cow 1 0;cow 1 0;cow 1 0;cow 1 0;cow 1 0;cow 1 0;cow 1 9;good 9 9;", 7, 127);
        without("cow 1 9;cow 1 0;cow 1 0;cow 1 0;cow 1 0;cow 1 0;cow 1 0;cow 1 0;good 9 9;", 7, 254);
        // Litres weigh: 30 times 40 and 10 times 80 are 50.
        without("cow 30 40;cow 10 80;good 50 50;", 0, 0);
        ButterChurn x = Due.told("cow 10 50;cow 10 50;good 40 60;");
        x.feeds(0, 0);
        Due.is("without(1) behind feeds()", x.without(1), 1);
        x.feeds(1, 0);
        Due.is("without(1), none good", x.without(1), ButterChurn.NONE);
    }

    private static void without(String text, int many, int bits) {
        ButterChurn x = Due.told(text);
        Due.is("without(0) of " + text, x.without(0), many);
        Due.is("without(1) of " + text, x.without(1), bits);
    }

    private static void seen() {
        ButterChurn x = Due.told("cow 10 50;cow 20 60;");
        Due.is("saw(4, 5)", x.saw(4, 5), ButterChurn.BAD);
        Due.is("saw(-1, 5)", x.saw(-1, 5), ButterChurn.BAD);
        Due.is("saw(3, -1)", x.saw(3, -1), ButterChurn.BAD);
        Due.is("saw(3, 401)", x.saw(3, 401), ButterChurn.BAD);
        for (int i = 1; i <= 8; i++) {
            Due.is("saw", x.saw(i % 4, i == 1 ? 400 : 0), i);
        }
        Due.is("saw the ninth", x.saw(0, 0), ButterChurn.FULL);
        Due.is("saw(4, 5), full", x.saw(4, 5), ButterChurn.BAD);
        Due.is("count(1)", x.count(1), 8);
        Due.is("forget()", x.forget(), 8);
        Due.is("forget()", x.forget(), 0);
        Due.is("count(1)", x.count(1), 0);
        Due.is("saw", x.saw(3, 7), 1);
    }

    private static void ways() {
        ButterChurn x = Due.told(SOME);
        Due.is("why(0) of nothing seen", x.why(0), 189);
        Due.is("why(1) of nothing seen", x.why(1), 0);
        Due.is("why(2) of nothing seen", x.why(2), 1);
        Due.is("why(3)", x.why(3), ButterChurn.BAD);
        Due.is("why(-1)", x.why(-1), ButterChurn.BAD);
        int warm = 140;
        int pace = 5;
        int[] cows = {7, 1, 4, 6};
        for (int bits : cows) {
            x.saw(bits, Math.max(0, x.comes(bits, warm, pace)));
            checkWays(x, cows, x.count(1), warm, pace);
        }
        x.feeds(0, 85);
        checkWays(x, cows, 4, 140, 5);
        Due.is("saw(7, 399)", x.saw(7, 399), 5);
        Due.is("why(0), none", x.why(0), 0);
        Due.is("why(1), none", x.why(1), ButterChurn.NONE);
        Due.is("why(2), none", x.why(2), ButterChurn.NONE);
        x.forget();
        x.saw(0, 0);
        Due.is("why(0) of an empty churn", x.why(0), 189);
        x.saw(0, 1);
        Due.is("why(0) of an empty churn that comes", x.why(0), 0);
    }

    private static int[] toldTurns = new int[4];

    private static void checkWays(ButterChurn x, int[] cows, int many, int warm, int pace) {
        toldTurns[many - 1] = toldTurns[many - 1] == 0
                ? Math.max(0, x.comes(cows[many - 1], warm, pace)) : toldTurns[many - 1];
        int ways = 0;
        int first = ButterChurn.NONE;
        int byPace = ButterChurn.NONE;
        for (int w = 400; w >= 0; w -= 20) {
            ButterChurn y = Due.told(SOME);
            y.feeds(0, x.cow(0, 1));
            for (int p = 9; p >= 1; p--) {
                boolean all = true;
                for (int i = 0; i < many; i++) {
                    all = all && Math.max(0, y.comes(cows[i], w, p)) == toldTurns[i];
                }
                if (all) {
                    ways++;
                    first = w;
                    byPace = p;
                }
            }
        }
        Due.is("why(0) of " + many, x.why(0), ways);
        Due.is("why(1) of " + many, x.why(1), first);
        Due.is("why(2) of " + many, x.why(2), byPace);
    }

    private static void nextDeeds() {
        // It comes in the next turn whatever is done: nothing is the first.
        ButterChurn x = Due.told("cow 10 0;drops 0 0 0 9;grain 3;churn 20;");
        next(x, 1, 0, 1);
        // Swollen from the first: half out alone helps.
        next(Due.told("cow 10 0;drops 0 0 0 9;grain 3;churn 10;"), 9, 1, 1);
        // HARD 0: it must be colder. HARD 100: it must be warmer.
        next(Due.told("cow 1 0;drops 0 0 0 2;grain 4;churn 400;beat 50 0;soft 130 99;heat 99;"), 9, 3,
                ButterChurn.NONE);
        ButterChurn soft = Due.told("cow 10 0;drops 0 0 0 9;grain 4;churn 400;beat 50 0;soft 130 99;");
        Due.is("next(1, 0)", soft.next(1, 0), 3);
        ButterChurn hard = Due.told("cow 10 100;drops 0 0 0 9;grain 4;churn 400;beat 50 0;soft 130 99;heat 99;");
        Due.is("next(1, 0)", hard.next(1, 0), 2);
        // At the least warmth it can be no colder, at the greatest no warmer.
        ButterChurn cold = Due.told("cow 10 0;drops 0 0 0 9;grain 4;churn 400;beat 50 0;soft 0 99;");
        Due.is("next(1, 0) at warmth 0", cold.next(1, 0), ButterChurn.NONE);
        ButterChurn hot = Due.told("cow 10 100;drops 0 0 0 9;grain 4;churn 400;beat 50 0;soft 400 99;");
        Due.is("next(1, 0) at warmth 400", hot.next(1, 0), ButterChurn.NONE);
        // From warmth 10 it is 0: by base 1 it is just not soft there.
        ButterChurn least = Due.told("cow 50 0;drops 0 0 99 0;grain 3;churn 400;beat 50 0;soft 1 99;heat 99;");
        least.warm(10);
        Due.is("next(9, 0) at warmth 10", least.next(9, 0), 3);
        hot.warm(395);
        // It is warmer than 400 nowhere, and less hard at no warmth up to it: HARD 100 stays above.
        Due.is("next(1, 0) at warmth 395", hot.next(1, 0), ButterChurn.NONE);
        ButterChurn none = new ButterChurn();
        Due.is("next(1, 0) of nothing", none.next(1, 0), ButterChurn.NONE);
        Due.is("next(1, 1) of nothing", none.next(1, 1), ButterChurn.NONE);
        Due.is("next(0, 0)", none.next(0, 0), ButterChurn.BAD);
        Due.is("next(10, 0)", none.next(10, 0), ButterChurn.BAD);
        Due.is("next(1, 2)", none.next(1, 2), ButterChurn.BAD);
        Due.is("next(1, -1)", none.next(1, -1), ButterChurn.BAD);
        x.turn(1, 1);
        Due.is("next(1, 0), it has come", x.next(1, 0), ButterChurn.STATE);
        Due.is("next(0, 0), it has come", x.next(0, 0), ButterChurn.BAD);
    }

    private static void next(ButterChurn x, int pace, int deed, int turns) {
        if (turns != ButterChurn.NONE) {
            Due.is("next(" + pace + ", 0)", x.next(pace, 0), deed);
            Due.is("next(" + pace + ", 1)", x.next(pace, 1), turns);
            return;
        }
        // What is told of the deed is what the churn does when it is done.
        int told = x.next(pace, 1);
        x.keep(0);
        Due.is("the deed of next(" + pace + ", 0)", x.next(pace, 0), bestDeed(x, pace, told));
    }

    /** Each deed is done and turned until it comes: the first of the soonest; -9: told is not it. */
    private static int bestDeed(ButterChurn x, int pace, int told) {
        int soonest = ButterChurn.NONE;
        int best = ButterChurn.NONE;
        for (int deed = 3; deed >= 0; deed--) {
            x.back(0);
            if (deed == 1) {
                x.half();
            } else if (deed > 1) {
                x.warm(Math.max(0, Math.min(400, x.now(1) + (deed == 2 ? 20 : -20))));
            }
            int from = x.now(4);
            x.turn(400, pace);
            int turns = x.now(5) - from + 1;
            if (x.now(5) != ButterChurn.NONE && (soonest == ButterChurn.NONE || turns <= soonest)) {
                soonest = turns;
                best = deed;
            }
        }
        x.back(0);
        return soonest == told ? best : -9;
    }

    private static void nextTurns() {
        int[] warms = {0, 10, 120, 200, 395};
        for (int warm : warms) {
            for (int pace = 1; pace <= 9; pace += 4) {
                ButterChurn x = Due.told(SOME);
                x.fill(7, warm);
                x.turn(2, 3);
                next(x, pace, 0, ButterChurn.NONE);
            }
        }
    }

    private static void overdone() {
        ButterChurn x = Due.told("cow 1 0;drops 0 0 0 71;grain 3;");
        Due.is("over(5) of what has not come", x.over(5), ButterChurn.STATE);
        Due.is("over(0) of what has not come", x.over(0), ButterChurn.BAD);
        x.turn(1, 1);
        Due.is("over(10)", x.over(10), ButterChurn.BAD);
        Due.is("over(-1)", x.over(-1), ButterChurn.BAD);
        Due.is("over(5)", x.over(5), 3);
        Due.is("over(9)", x.over(9), 3);
        x.turn(1, 5);
        Due.is("over(5), a turn later", x.over(5), 2);
        x.turn(2, 5);
        Due.is("over(5), it is", x.over(5), 0);
        Due.is("now(4) behind over()", x.now(4), 4);
        ButterChurn never = Due.told("cow 1 0;drops 1 0 0 71;grain 3;");
        never.turn(1, 1);
        Due.is("over(5) of what stays below", never.over(5), ButterChurn.NONE);
        // By pace 1 two join of ten and more alone, so much stays below class 6.
        x.fill(1, 130);
        x.turn(1, 1);
        Due.is("over(1) of 71 drops", x.over(1), ButterChurn.NONE);
    }
}
