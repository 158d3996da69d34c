/** Promises 1 to 8: a new object, the tape, what a text tells, rules, cows. */
public final class TextTest {
    private TextTest() {
    }

    public static void main(String[] args) {
        newObject();
        tape();
        told();
        whatNoLineTells();
        tokens();
        misplaced();
        bounds();
        secondTimes();
        faultsChangeNothing();
        rulesAndCows();
        Due.end("TextTest");
    }

    private static void newObject() {
        ButterChurn x = new ButterChurn();
        int[] counts = {0, 0, 0, 0, ButterChurn.NONE};
        for (int what = 0; what < counts.length; what++) {
            Due.is("count(" + what + ") of a new object", x.count(what), counts[what]);
        }
        rules(x, 100, 130, 10, 10, 20, 4, 10, 20, 80);
        litre(x, 64, 16, 4, 0);
        int[] now = {0, 130, 0, 0, 0, ButterChurn.NONE, 0, 0, 0, 0};
        for (int what = 0; what < now.length; what++) {
            Due.is("now(" + what + ") of a new object", x.now(what), now[what]);
        }
        Due.is("fault() of a new object", x.fault(), 0);
        Due.is("torn() of a new object", x.torn(), 0);
        for (int k = 0; k < 4; k++) {
            Due.is("lay(" + k + ", 0, 0) of a new object", x.lay(k, 0, 0), -11);
        }
        Due.is("back(0) of a new object", x.back(0), ButterChurn.STATE);
    }

    private static void rules(ButterChurn x, int... want) {
        for (int what = 0; what < want.length; what++) {
            Due.is("rule(" + what + ")", x.rule(what), want[what]);
        }
    }

    private static void litre(ButterChurn x, int... want) {
        for (int k = 0; k < want.length; k++) {
            Due.is("rule(" + (10 + k) + ")", x.rule(10 + k), want[k]);
        }
    }

    private static void tape() {
        ButterChurn x = new ButterChurn();
        for (int n = 8; n <= 320; n += 8) {
            Due.is("feed", x.feed(-1), n);
        }
        Due.is("feed on a full tape", x.feed(0), ButterChurn.FULL);
        Due.is("count(3) of a full tape", x.count(3), 320);
        Due.is("end(321)", x.end(321), ButterChurn.BAD);
        Due.is("end(-1)", x.end(-1), ButterChurn.BAD);
        Due.is("end(320)", x.end(320), 320);
        Due.is("end(313)", x.end(313), 320);
        Due.is("feed behind 313 bytes", x.feed(0), ButterChurn.FULL);
        Due.is("end(312)", x.end(312), 313);
        Due.is("feed behind 312 bytes", x.feed(0), 320);
        Due.is("end(0)", x.end(0), 320);
        Due.is("end(1) of an empty tape", x.end(1), ButterChurn.BAD);
        Due.is("end(0) of an empty tape", x.end(0), 0);
        // The highest byte first: "heat 9; " as one number.
        Due.is("feed of eight bytes", x.feed(0x6865617420393b20L), 8);
        Due.is("dairy", x.dairy(), 1);
        Due.is("heat", x.rule(6), 9);
        Due.is("count(3) behind dairy()", x.count(3), 0);
        // Cut in the midst of eight bytes, and more behind it.
        x.feed(0x6865617420390000L);
        x.end(6);
        x.feed(0x373b202020202020L);
        Due.is("count(3) behind 6 and 8 bytes", x.count(3), 14);
        Due.is("dairy of a text cut and fed on", x.dairy(), 1);
        Due.is("heat, cut and fed on", x.rule(6), 97);
    }

    private static void told() {
        ButterChurn x = Due.told("cow 10 50;cow 20 81;drops 9 8 7 6;churn 99;soft 120 9;beat 8 7;grain 5;"
                + "heat 6;good 30 40;");
        rules(x, 99, 120, 9, 8, 7, 5, 6, 30, 40);
        litre(x, 9, 8, 7, 6);
        Due.is("count(0)", x.count(0), 2);
        // Filled with all, at the base: 10 times 50 and 20 times 81, by 30, is 70 and 2 thirds.
        int[] now = {30, 120, 70, 0, 0, ButterChurn.NONE, 30 * 101, 30 * 101, 0, 0};
        for (int what = 0; what < now.length; what++) {
            Due.is("now(" + what + ") behind a text", x.now(what), now[what]);
        }
        Due.text("cow 10 50;cow 20 81;drops 9 8 7 6;churn 99;soft 120 9;beat 8 7;grain 5;heat 6;good 3 4;", 9, 0);
        Due.text("", 0, 0);
        Due.text("        ", 0, 0);
    }

    private static void whatNoLineTells() {
        ButterChurn x = Due.told("cow 10 50;drops 9 8 7 6;churn 99;soft 120 9;beat 8 7;grain 5;heat 6;good 30 40;");
        x.saw(1, 5);
        x.keep(0);
        x.sheet(0, 0, 3);
        x.turn(5, 5);
        x.warm(7);
        Due.feed(x, "heat 7;");
        Due.is("dairy()", x.dairy(), 1);
        rules(x, 100, 130, 10, 10, 20, 4, 7, 20, 80);
        litre(x, 64, 16, 4, 0);
        int[] counts = {0, 0, 0, 0, 3};
        for (int what = 0; what < counts.length; what++) {
            Due.is("count(" + what + ") behind another text", x.count(what), counts[what]);
        }
        Due.is("cow(0, 0) behind another text", x.cow(0, 0), ButterChurn.BAD);
        Due.is("back(0) behind another text", x.back(0), ButterChurn.STATE);
        Due.is("now(4) behind another text", x.now(4), 0);
        Due.is("now(1) behind another text", x.now(1), 130);
    }

    private static void tokens() {
        Due.text("cow10 20;", 1, 0);
        Due.text("  cow   10    20   ;   ", 1, 0);
        Due.text("cow10 20;cow 1 1;good 0 0;", 3, 0);
        Due.text("cow 010 000;", 1, 0);
        Due.text("cow 0010 20;", -14, 1);
        Due.text("cow 10 1234", -17, 1);
        Due.text("1234", -10, 1);
        Due.text("   #", -13, 1);
        Due.text("cow 10\t20;", -16, 1);
        Due.text("Cow 10 20;", -10, 1);
        Due.text("cow 10 -1;", -17, 1);
        Due.text("cow 10 20:", -19, 1);
        Due.text("cow 10 20;\n", -20, 1);
        Due.text("cow 10 20\u00e9", -19, 1);
        Due.text("cow 10 20\0", -19, 1);
        Due.text("cow\u00ff", -13, 1);
        Due.text("`", -10, 1);
        Due.text("{", -10, 1);
        Due.text("/", -10, 1);
    }

    private static void misplaced() {
        Due.text("ox 10 20;", -10, 2);
        Due.text("a", -10, 2);
        Due.text("z", -10, 2);
        Due.text(" cows 10 20;", -11, 2);
        Due.text("co w 10 20;", -10, 2);
        Due.text("dropsy", -10, 2);
        Due.text("10", -10, 2);
        Due.text(";", -10, 2);
        Due.text("cow 10 20;;", -20, 2);
        Due.text("cow ;", -14, 2);
        Due.text("cow cow", -14, 2);
        Due.text("cow 10;", -16, 2);
        Due.text("cow 10 20 30;", -20, 2);
        Due.text("cow 10 20 cow", -20, 2);
        Due.text("drops 1 2 3;", -21, 2);
        Due.text("drops 1 2 3 4 5;", -24, 2);
        Due.text("churn;", -15, 2);
        Due.text("grain 4 4;", -18, 2);
        // The end stands behind all the blanks.
        Due.text("cow", -13, 2);
        Due.text("cow   ", -16, 2);
        Due.text("cow 10 20", -19, 2);
        Due.text("cow 10 20  ", -21, 2);
    }

    private static void bounds() {
        String[] least = {"cow 1 0;", "drops 0 0 0 0;", "churn 10;", "soft 0 1;", "beat 0 0;", "grain 3;",
            "heat 1;", "good 0 0;"};
        String[] most = {"cow 50 100;", "drops 99 99 99 99;", "churn 400;", "soft 400 99;", "beat 50 99;",
            "grain 6;", "heat 99;", "good 100 100;"};
        for (int i = 0; i < least.length; i++) {
            Due.text(least[i], 1, 0);
            Due.text(most[i], 1, 0);
        }
        Due.text("cow 0 0;", -14, 3);
        Due.text("cow 51 0;", -14, 3);
        Due.text("cow 1 101;", -16, 3);
        Due.text("drops 100 0 0 0;", -16, 3);
        Due.text("drops 0 100 0 0;", -18, 3);
        Due.text("drops 0 0 100 0;", -20, 3);
        Due.text("drops 0 0 0 100;", -22, 3);
        Due.text("churn 9;", -16, 3);
        Due.text("churn 401;", -16, 3);
        Due.text("soft 401 1;", -15, 3);
        Due.text("soft 0 0;", -17, 3);
        Due.text("soft 0 100;", -17, 3);
        Due.text("beat 51 0;", -15, 3);
        Due.text("beat 0 100;", -17, 3);
        Due.text("grain 2;", -16, 3);
        Due.text("grain 7;", -16, 3);
        Due.text("heat 0;", -15, 3);
        Due.text("heat 100;", -15, 3);
        Due.text("good 101 101;", -15, 3);
        Due.text("good 50 49;", -18, 3);
        Due.text("good 50 101;", -18, 3);
        Due.text("good 90 90;", 1, 0);
        // What comes behind a fault is not read.
        Due.text("heat 0#", -15, 3);
        Due.text("heat 0 heat", -15, 3);
    }

    private static void secondTimes() {
        String[] lines = {"drops 1 2 3 4;", "churn 20;", "soft 1 2;", "beat 1 2;", "grain 3;", "heat 4;",
            "good 5 6;"};
        for (String line : lines) {
            Due.text(line + "cow 1 1; " + line, -(10 + line.length() + 9), 4);
            // Its name tells it, whatever stands behind it.
            Due.text(line + line.substring(0, line.indexOf(' ')), -(10 + line.length()), 4);
        }
        String eight = "cow 1 1;".repeat(8);
        Due.text(eight, 8, 0);
        Due.text(eight + " cow", -75, 5);
        Due.text(eight + " heat 5;", 9, 0);
        Due.is("count(0) of eight cows", Due.told(eight).count(0), 8);
        Due.is("litres of eight cows", Due.told("cow 50 1;".repeat(8)).now(0), 400);
    }

    private static void faultsChangeNothing() {
        ButterChurn x = Due.told("cow 10 50;heat 5;");
        x.saw(1, 5);
        x.keep(1);
        x.turn(3, 2);
        Due.feed(x, "cow 20 60;cow 30 70;churn 50;heat 100;");
        Due.is("dairy() of a bad text", x.dairy(), -44);
        Due.is("its fault", x.fault(), 3);
        Due.is("the tape behind it", x.count(3), 0);
        Due.is("count(0) behind it", x.count(0), 1);
        Due.is("cow(0, 0) behind it", x.cow(0, 0), 10);
        Due.is("cow(0, 1) behind it", x.cow(0, 1), 50);
        Due.is("rule(0) behind it", x.rule(0), 100);
        Due.is("rule(6) behind it", x.rule(6), 5);
        Due.is("now(4) behind it", x.now(4), 3);
        Due.is("count(1) behind it", x.count(1), 1);
        Due.is("back(1) behind it", x.back(1), 0);
        Due.is("dairy() of nothing", x.dairy(), 0);
        Due.is("the fault of nothing", x.fault(), 0);
        Due.is("count(0) behind nothing", x.count(0), 0);
        Due.is("rule(6) behind nothing", x.rule(6), 10);
    }

    private static void rulesAndCows() {
        ButterChurn x = Due.told("cow 10 50;cow 20 60;");
        int[] bad = {Integer.MIN_VALUE, -1, 9, 14, Integer.MAX_VALUE};
        for (int what : bad) {
            Due.is("rule(" + what + ")", x.rule(what), ButterChurn.BAD);
        }
        Due.is("cow(1, 0)", x.cow(1, 0), 20);
        Due.is("cow(1, 1)", x.cow(1, 1), 60);
        Due.is("cow(2, 0)", x.cow(2, 0), ButterChurn.BAD);
        Due.is("cow(-1, 0)", x.cow(-1, 0), ButterChurn.BAD);
        Due.is("cow(0, 2)", x.cow(0, 2), ButterChurn.BAD);
        Due.is("cow(0, -1)", x.cow(0, -1), ButterChurn.BAD);
        Due.is("feeds(0, 101)", x.feeds(0, 101), ButterChurn.BAD);
        Due.is("feeds(0, -1)", x.feeds(0, -1), ButterChurn.BAD);
        Due.is("feeds(2, 5)", x.feeds(2, 5), ButterChurn.BAD);
        Due.is("feeds(-1, 5)", x.feeds(-1, 5), ButterChurn.BAD);
        Due.is("feeds(0, 100)", x.feeds(0, 100), 50);
        Due.is("feeds(0, 0)", x.feeds(0, 0), 100);
        Due.is("cow(0, 1)", x.cow(0, 1), 0);
        // What is in the churn already does not change: 500 and 1200 by 30.
        Due.is("now(2) behind feeds()", x.now(2), 56);
        Due.is("fill(3, 130)", x.fill(3, 130), 30);
        Due.is("now(2), filled anew", x.now(2), 40);
    }
}
