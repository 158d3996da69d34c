/** Promises 1 to 8: each sentence that names a boundary case, by itself. */
public final class TextEdgesTest {
    private static final int BAD = ButterChurn.BAD, NONE = ButterChurn.NONE;
    private static final String[] NAMES =
        {"cow", "drops", "churn", "soft", "beat", "grain", "heat", "good"};
    private static final int[] NUMBERS = {2, 4, 1, 2, 2, 1, 1, 2};
    private static final String COW = "cow 1 2;";

    private TextEdgesTest() {
    }

    public static void main(String[] args) {
        newHasNoCows();
        newIsAsAtFirst();
        newChurnIsEmpty();
        newSheetsHaveNothing();
        newHasNothingElse();
        feedHighestFirst();
        feedBehind();
        feedFull();
        feedFullBehindAnEnd();
        endKeeps();
        endAbove();
        endBelow();
        endOfNothing();
        textOfNothing();
        textOfBlanks();
        textOfTheWholeTape();
        blanksNeeded();
        blanksMany();
        bytesThatAreNoToken();
        figures();
        longNumberAnywhere();
        namesWhole();
        tokenOutOfPlace();
        theEndOutOfPlace();
        numberBounds();
        lowAndHigh();
        secondTime();
        ninthCow();
        firstFaultMet();
        tapeEmptyThen();
        faultsKeepWhatWasTold();
        tellsAllInPlace();
        tellsNoLine();
        churnIsFilled();
        imagesAndSeenAreGone();
        sheetsStay();
        howManyLines();
        faultOfTheLatest();
        ruleBounds();
        litreBounds();
        cowBounds();
        cowOfEight();
        cowWhat();
        feedsValue();
        feedsCow();
        feedsOnlyTheCow();
        Due.end("TextEdgesTest");
    }

    // ---- promise 1

    private static void newHasNoCows() {
        Due.sentence("1: No COWS");
        ButterChurn x = new ButterChurn();
        Due.is("count(0)", x.count(0), 0);
        Due.is("cow(0, 0)", x.cow(0, 0), BAD);
        Due.is("feeds(0, 50)", x.feeds(0, 50), BAD);
        Due.is("fill(1, 130)", x.fill(1, 130), BAD);
        Due.is("fill(0, 130)", x.fill(0, 130), 0);
        Due.is("run(1, 130, 1, 0, 0)", x.run(1, 130, 1, 0, 0), BAD);
        Due.is("comes(1, 130, 1)", x.comes(1, 130, 1), BAD);
        Due.is("comes(0, 130, 1)", x.comes(0, 130, 1), NONE);
        Due.is("plan(1, 0)", x.plan(1, 0), BAD);
        Due.is("plan(0, 0)", x.plan(0, 0), NONE);
        Due.is("without(0)", x.without(0), NONE);
        Due.is("saw(1, 0)", x.saw(1, 0), BAD);
    }

    private static void newIsAsAtFirst() {
        Due.sentence("1: all as told at first");
        rulesAreFirst(new ButterChurn());
    }

    private static void rulesAreFirst(ButterChurn x) {
        int[] first = {100, 130, 10, 10, 20, 4, 10, 20, 80, BAD, 64, 16, 4, 0, BAD};
        for (int what = 0; what < first.length; what++) {
            Due.is("rule(" + what + ")", x.rule(what), first[what]);
        }
    }

    private static void newChurnIsEmpty() {
        Due.sentence("1, 2: all as told at first: THE CHURN is FILLED with none, at WARMTH base");
        ButterChurn x = new ButterChurn();
        churnIsEmpty(x);
        Due.is("over(1)", x.over(1), ButterChurn.STATE);
        Due.is("next(1, 0)", x.next(1, 0), NONE);
        Due.is("half()", x.half(), 0);
        // AIR 540 times 20 by 100 is 108, as no churn of 100 can hold.
        Due.is("turn(400, 9)", x.turn(400, 9), 6);
        Look.churnIs("a new churn, turned", x, 0, 400, 0, 540, 400, NONE, 0, 0, 1, 2);
    }

    private static void churnIsEmpty(ButterChurn x) {
        Look.churnIs("an empty churn", x, 0, 130, 0, 0, 0, NONE, 0, 0, 0, 0, 0, 0, 0, 0, 0, 0, 0);
    }

    private static void newSheetsHaveNothing() {
        Due.sentence("1: SHEETS have nothing");
        ButterChurn x = new ButterChurn();
        for (int k = 0; k < 4; k++) {
            Due.is("lay(" + k + ", 0, 1)", x.lay(k, 0, 1), -11);
            Due.is("read(" + k + ", 0, 0, 1)", x.read(k, 0, 0, 1), 0);
            Due.is("torn()", x.torn(), 1);
        }
        Due.is("count(4)", x.count(4), NONE);
    }

    private static void newHasNothingElse() {
        Due.sentence("1: all as told at first: THE TAPE, IMAGES, SEEN, FAULTS");
        ButterChurn x = new ButterChurn();
        Due.is("count(1)", x.count(1), 0);
        Due.is("count(2)", x.count(2), 0);
        Due.is("count(3)", x.count(3), 0);
        Due.is("fault()", x.fault(), 0);
        Due.is("torn()", x.torn(), 0);
        Due.is("back(0)", x.back(0), ButterChurn.STATE);
        Due.is("back(1)", x.back(1), ButterChurn.STATE);
        Due.is("forget()", x.forget(), 0);
        Due.is("end(0)", x.end(0), 0);
        Due.is("dairy()", x.dairy(), 0);
    }

    // ---- promises 2 and 3

    private static void feedHighestFirst() {
        Due.sentence("2: eight bytes come, the highest first");
        ButterChurn x = new ButterChurn();
        x.feed(0x6865617420393b20L);
        Due.is("dairy() of 'heat 9; '", x.dairy(), 1);
        Due.is("rule(6)", x.rule(6), 9);
        // The highest byte alone is no TOKEN, then the lowest alone.
        x.feed(0xff20202020202020L);
        Due.is("dairy() of a highest byte of 255", x.dairy(), -10);
        x.feed(0x20202020202020ffL);
        Due.is("dairy() of a lowest byte of 255", x.dairy(), -17);
        x.feed(0x2020202020202000L);
        Due.is("dairy() of a lowest byte of 0", x.dairy(), -17);
        long[] all = {Long.MIN_VALUE, -1, 0, Long.MAX_VALUE};
        for (int i = 0; i < all.length; i++) {
            Due.is("feed(" + all[i] + ")", x.feed(all[i]), 8 * i + 8);
        }
    }

    private static void feedBehind() {
        Due.sentence("2: they come behind THE TAPE: how many it has");
        ButterChurn x = new ButterChurn();
        Due.is("feed of 'churn 39'", x.feed(0x636875726e203339L), 8);
        Due.is("feed of '9;heat 2'", x.feed(0x393b686561742032L), 16);
        Due.is("end(14)", x.end(14), 16);
        Due.is("feed of '97;     ', behind 14", x.feed(0x39373b2020202020L), 22);
        Due.is("count(3)", x.count(3), 22);
        Due.is("dairy()", x.dairy(), 2);
        Due.is("rule(0)", x.rule(0), 399);
        Due.is("rule(6)", x.rule(6), 97);
    }

    private static ButterChurn taped(int n) {
        ButterChurn x = new ButterChurn();
        for (int i = 0; i < n; i += 8) {
            x.feed(0x2020202020202020L);
        }
        x.end(n);
        return x;
    }

    private static void feedFull() {
        Due.sentence("2: FULL: more than 320");
        ButterChurn x = new ButterChurn();
        for (int n = 8; n <= 320; n += 8) {
            Due.is("feed up to " + n, x.feed(0x2020202020202020L), n);
        }
        Due.is("feed up to 328", x.feed(0x2323232323232323L), ButterChurn.FULL);
        Due.is("feed up to 328, once more", x.feed(0), ButterChurn.FULL);
        Due.is("count(3)", x.count(3), 320);
        Due.is("dairy() of 320 blanks", x.dairy(), 0);
        Due.is("feed behind dairy()", x.feed(0), 8);
    }

    private static void feedFullBehindAnEnd() {
        Due.sentence("2: FULL: more than 320, by less than eight, too");
        ButterChurn just = taped(312);
        Due.is("feed behind 312", just.feed(0x6865617420393b20L), 320);
        Due.is("dairy()", just.dairy(), 1);
        for (int n = 313; n <= 320; n++) {
            ButterChurn x = taped(n);
            Due.is("feed behind " + n, x.feed(0x6865617420393b20L), ButterChurn.FULL);
            Due.is("count(3) behind it", x.count(3), n);
            Due.is("dairy() behind it", x.dairy(), 0);
        }
        for (int n = 1; n < 8; n++) {
            Due.is("feed behind " + n, taped(n).feed(0), n + 8);
        }
    }

    private static void endKeeps() {
        Due.sentence("3: THE TAPE keeps its first n bytes: how many it had");
        ButterChurn x = new ButterChurn();
        Due.feed(x, "heat 9;churn 11;#");
        Due.is("end(17)", x.end(17), 17);
        Due.is("count(3)", x.count(3), 17);
        Due.is("end(16)", x.end(16), 17);
        Due.is("end(7)", x.end(7), 16);
        Due.is("dairy()", x.dairy(), 1);
        Due.is("rule(0)", x.rule(0), 100);
        Due.feed(x, "heat 9;churn 11;#");
        Due.is("end(0)", x.end(0), 17);
        Due.is("end(0), once more", x.end(0), 0);
        Due.is("dairy() of none", x.dairy(), 0);
        // What is cut off does not come back.
        Due.feed(x, "heat 9;churn 11;");
        x.end(7);
        x.feed(0x2020202020202020L);
        Due.is("dairy() of 7 bytes and 8 blanks", x.dairy(), 1);
    }

    private static void endAbove() {
        Due.sentence("3: BAD (n above that, too)");
        Look.refused("end above", BAD, x -> x.end(16), x -> x.end(320), x -> x.end(321),
                x -> x.end(Integer.MAX_VALUE));
        Look.taken("end", x -> x.end(15), x -> x.end(14), x -> x.end(1), x -> x.end(0));
        ButterChurn x = taped(320);
        Due.is("end(321) of 320", x.end(321), BAD);
        Due.is("end(320) of 320", x.end(320), 320);
        x.end(8);
        Due.is("end(9) of 8 that were 320", x.end(9), BAD);
    }

    private static void endBelow() {
        Due.sentence("3: BAD: n below 0");
        Look.refused("end below", BAD, x -> x.end(-1), x -> x.end(-15), x -> x.end(Integer.MIN_VALUE));
    }

    private static void endOfNothing() {
        Due.sentence("3: of an empty TAPE");
        ButterChurn x = new ButterChurn();
        Due.is("end(1)", x.end(1), BAD);
        Due.is("end(-1)", x.end(-1), BAD);
        Due.is("end(0)", x.end(0), 0);
    }

    // ---- promise 4: tokens

    private static void textOfNothing() {
        Due.sentence("4: a text of no line is taken: all as at first, No COWS");
        ButterChurn x = Look.full();
        x.end(0);
        Due.is("dairy()", x.dairy(), 0);
        Due.is("fault()", x.fault(), 0);
        Due.is("count(0)", x.count(0), 0);
        rulesAreFirst(x);
        churnIsEmpty(x);
    }

    private static void textOfBlanks() {
        Due.sentence("4: any number of blanks: nothing but blanks");
        Due.text(" ", 0, 0);
        Due.text("       ", 0, 0);
        Due.text(" ".repeat(320), 0, 0);
    }

    private static void textOfTheWholeTape() {
        Due.sentence("4: THE TAPE has 320 bytes, places from 0");
        Due.text(" ".repeat(312) + COW, 1, 0);
        Due.text(COW + " ".repeat(312), 1, 0);
        Due.text(" ".repeat(319) + "#", -10 - 319, 1);
        Due.text(" ".repeat(319) + "a", -10 - 319, 2);
        Due.text(" ".repeat(319) + ";", -10 - 319, 2);
        Due.text(" ".repeat(313) + "cow 1 2", -10 - 320, 2);
        Due.text(" ".repeat(313) + "cow 0 2", -10 - 317, 3);
        Due.text("cow" + " ".repeat(317), -10 - 320, 2);
        Due.text("#" + " ".repeat(319), -10, 1);
        Due.text("a".repeat(320), -10, 2);
        Due.text("1".repeat(320), -10, 1);
        Due.text(" ".repeat(316) + "1234", -10 - 316, 1);
    }

    private static void blanksNeeded() {
        Due.sentence("4: one at least between two NAMES, between two NUMBERS; else none is needed");
        Due.text("cow1 2;drops1 2 3 4;churn10;soft1 2;beat1 2;grain3;heat1;good1 2;", 8, 0);
        Due.text("cow 1 2;", 1, 0);
        // 1 and 2 in one are the NUMBER 12; the sign stands where the other NUMBER must.
        Due.text("cow 12;", -16, 2);
        Due.text("cow 1002;", -14, 1);
        Due.text("cowcow", -10, 2);
        Due.text("cow cow", -14, 2);
        Due.text("heat5;cow1 2;", 2, 0);
    }

    private static void blanksMany() {
        Due.sentence("4: any number of blanks ahead of, between, behind them");
        String hundred = " ".repeat(100);
        String most = " ".repeat(14) + "cow" + hundred + "1" + hundred + "2" + hundred + ";";
        Due.is("how long it is", most.length(), 320);
        Due.text(most, 1, 0);
        Due.text("  cow  1  2  ;  heat  3  ;  ", 2, 0);
    }

    /** A byte behind a text, for all that a byte can be. */
    private static void everyByte(String ahead, int blank, int sign, int figure, int letter) {
        int place = -10 - ahead.length();
        for (int b = 0; b < 256; b++) {
            ButterChurn x = new ButterChurn();
            Due.feed(x, ahead + (char) b);
            boolean isFigure = b >= 48 && b <= 57;
            boolean isLetter = b >= 97 && b <= 122;
            int due = b == 32 ? blank : b == 59 ? sign : isFigure ? figure : isLetter ? letter : 1;
            // A blank is passed, so it is the end that can not stand there; a figure at the end, too.
            boolean behind = (b == 32 || isFigure) && due == 2 && !ahead.isEmpty();
            int answer = due == 0 ? (ahead.isEmpty() ? 0 : 1) : behind ? place - 1 : place;
            Due.is("dairy() of '" + ahead + "' and byte " + b, x.dairy(), answer);
            Due.is("fault() of '" + ahead + "' and byte " + b, x.fault(), due);
        }
    }

    private static void bytesThatAreNoToken() {
        Due.sentence("4: NAMES (a .. z), NUMBERS, the sign ; (every other byte is no TOKEN); FAULT 1");
        everyByte("", 0, 2, 2, 2);
        everyByte("soft ", 2, 2, 2, 2);
        everyByte("heat 5", 2, 0, 2, 2);
        everyByte("cow 1 ", 2, 2, 2, 2);
    }

    private static void heat(String number, int want) {
        Due.is("heat " + number, Due.told("heat " + number + ";").rule(6), want);
    }

    private static void figures() {
        Due.sentence("4: NUMBERS (1 to 3 figures); FAULT 1: a NUMBER that is too long (its first byte)");
        heat("5", 5);
        heat("05", 5);
        heat("005", 5);
        heat("99", 99);
        heat("099", 99);
        Due.text("heat 0005;", -15, 1);
        Due.text("heat 1000;", -15, 1);
        Due.text("heat   00000005;", -17, 1);
        Due.text("churn 400;", 1, 0);
        Due.text("churn 4000;", -16, 1);
        Due.text("churn 0400;", -16, 1);
        Due.text("cow 1 0002;", -16, 1);
    }

    private static void longNumberAnywhere() {
        Due.sentence("4: FAULT 1: a NUMBER that is too long, wherever it is read");
        Due.text("1234", -10, 1);
        Due.text("123", -10, 2);
        Due.text("heat 5 1234", -17, 1);
        Due.text("heat 5 123", -17, 2);
        Due.text(COW + "0000", -18, 1);
    }

    private static void namesWhole() {
        Due.sentence("4: FAULT 2: a NAME that begins no line; TOKENS as long as may be");
        for (String name : NAMES) {
            Due.text(name.substring(1) + " 1", -10, 2);
            Due.text(name.substring(0, name.length() - 1) + " 1", -10, 2);
            Due.text(name + "a 1", -10, 2);
            Due.text(name + name + " 1", -10, 2);
            Due.text("z" + name + " 1", -10, 2);
            Due.text(name.substring(0, name.length() - 1) + "z 1", -10, 2);
            Due.text("z" + name.substring(1) + " 1", -10, 2);
            Due.text(name.substring(0, 1) + " " + name.substring(1), -10, 2);
        }
        Due.text("a", -10, 2);
        Due.text("z", -10, 2);
        Due.text(COW + " a", -19, 2);
    }

    /** A line up to ahead of one of its NUMBERS, or of its sign. */
    private static String upTo(int line, int numbers) {
        StringBuilder text = new StringBuilder(NAMES[line]).append(' ');
        for (int i = 0; i < numbers; i++) {
            // Taken in each place of each line but for a churn's and a grain's.
            text.append(NAMES[line].equals("churn") ? 10 : 4).append(' ');
        }
        return text.toString();
    }

    private static void tokenOutOfPlace() {
        Due.sentence("4: FAULT 2: a TOKEN that can not stand there");
        Due.text(";", -10, 2);
        Due.text("1", -10, 2);
        Due.text(COW + ";", -18, 2);
        Due.text(COW + "1", -18, 2);
        for (int line = 0; line < NAMES.length; line++) {
            for (int i = 0; i < NUMBERS[line]; i++) {
                String ahead = upTo(line, i);
                Due.text(ahead + ";", -10 - ahead.length(), 2);
                Due.text(ahead + "cow", -10 - ahead.length(), 2);
                Due.text(ahead + "abc", -10 - ahead.length(), 2);
            }
            String all = upTo(line, NUMBERS[line]);
            Due.text(all + "4;", -10 - all.length(), 2);
            Due.text(all + "cow", -10 - all.length(), 2);
            Due.text(all + ";", 1, 0);
        }
    }

    private static void theEndOutOfPlace() {
        Due.sentence("4: FAULT 2: or the end: the length");
        for (int line = 0; line < NAMES.length; line++) {
            Due.text(NAMES[line], -10 - NAMES[line].length(), 2);
            for (int i = 0; i <= NUMBERS[line]; i++) {
                String ahead = upTo(line, i);
                Due.text(ahead, -10 - ahead.length(), 2);
                Due.text(ahead.trim(), -10 - ahead.trim().length(), 2);
                Due.text(ahead + "     ", -15 - ahead.length(), 2);
            }
        }
        // Behind a line the end can stand.
        Due.text(COW, 1, 0);
        Due.text(COW + "   ", 1, 0);
    }

    // ---- promise 4: bounds

    /** The least and the most that a NUMBER can be, behind a text, and the two just out of them. */
    private static void bounds(String ahead, int least, int most, String behind) {
        Due.text(ahead + least + behind, 1, 0);
        Due.text(ahead + most + behind, 1, 0);
        if (least > 0) {
            Due.text(ahead + (least - 1) + behind, -10 - ahead.length(), 3);
            Due.text(ahead + "0" + behind, -10 - ahead.length(), 3);
        }
        Due.text(ahead + (most + 1) + behind, -10 - ahead.length(), 3);
        Due.text(ahead + "999" + behind, -10 - ahead.length(), 3);
    }

    private static void numberBounds() {
        Due.sentence("4: FAULT 3: a NUMBER out of its bounds");
        bounds("cow ", 1, 50, " 7;");
        bounds("cow 7 ", 0, 100, ";");
        bounds("drops ", 0, 99, " 7 7 7;");
        bounds("drops 7 ", 0, 99, " 7 7;");
        bounds("drops 7 7 ", 0, 99, " 7;");
        bounds("drops 7 7 7 ", 0, 99, ";");
        bounds("churn ", 10, 400, ";");
        bounds("soft ", 0, 400, " 7;");
        bounds("soft 7 ", 1, 99, ";");
        bounds("beat ", 0, 50, " 7;");
        bounds("beat 7 ", 0, 99, ";");
        bounds("grain ", 3, 6, ";");
        bounds("heat ", 1, 99, ";");
        bounds("good ", 0, 100, " 100;");
        bounds("good 0 ", 0, 100, ";");
    }

    private static void lowAndHigh() {
        Due.sentence("RULES 7, 8: low no more than high");
        bounds("good 50 ", 50, 100, ";");
        bounds("good 100 ", 100, 100, ";");
        bounds("good 1 ", 1, 100, ";");
        // Its bounds as it is read: low may be more than the high that there was.
        ButterChurn x = Due.told("good 10 20;");
        Due.feed(x, "good 90 95;");
        Due.is("dairy()", x.dairy(), 1);
        Due.is("rule(7)", x.rule(7), 90);
        Due.is("rule(8)", x.rule(8), 95);
    }

    private static void secondTime() {
        Due.sentence("4: FAULT 4: any but cow for the second time (its NAME)");
        for (int line = 1; line < NAMES.length; line++) {
            String first = upTo(line, NUMBERS[line]) + ";";
            Due.text(first + NAMES[line], -10 - first.length(), 4);
            Due.text(first + "  " + first, -12 - first.length(), 4);
            Due.text(first + COW + NAMES[line] + "#", -18 - first.length(), 4);
            for (int other = 1; other < NAMES.length; other++) {
                if (other != line) {
                    Due.text(first + upTo(other, NUMBERS[other]) + ";", 2, 0);
                }
            }
            // Of the text ahead it is not the second time.
            ButterChurn x = Due.told(first);
            Due.feed(x, first);
            Due.is("dairy() of " + first + " in another text", x.dairy(), 1);
        }
        Due.text(COW + COW, 2, 0);
    }

    private static void ninthCow() {
        Due.sentence("4: COWS (8 at most); FAULT 5: the 9th cow (its NAME)");
        Due.text(COW.repeat(8), 8, 0);
        Due.text(COW.repeat(8) + "cow", -10 - 64, 5);
        Due.text(COW.repeat(8) + "  " + COW, -10 - 66, 5);
        Due.text(COW.repeat(8) + "heat 3;cow 99", -10 - 71, 5);
        Due.text(COW.repeat(9), -10 - 64, 5);
        Due.text(COW.repeat(8) + "heat 3;", 9, 0);
        ButterChurn x = Due.told(COW.repeat(8));
        Due.is("count(0)", x.count(0), 8);
        Due.feed(x, COW);
        Due.is("dairy() of one cow behind eight of another text", x.dairy(), 1);
    }

    private static void firstFaultMet() {
        Due.sentence("4: FAULTS, the first met as it is read (a TOKEN is read when the one before has been taken)");
        Due.text("heat 0#", -15, 3);
        Due.text("heat 0 1234", -15, 3);
        Due.text("heat 100;heat 5;", -15, 3);
        Due.text("heat 5 6#", -17, 2);
        Due.text("ox#", -10, 2);
        Due.text("heat#", -14, 1);
        Due.text("heat 5#", -16, 1);
        Due.text("heat 5;heat#", -17, 4);
        Due.text("#heat 5;heat", -10, 1);
        Due.text("soft 401 0;", -15, 3);
        Due.text("good 101 1;", -15, 3);
        Due.text("cow 0 101;", -14, 3);
        Due.text(COW.repeat(8) + "cow#", -74, 5);
        Due.text(COW.repeat(8) + "cows", -74, 2);
    }

    // ---- promise 4: what is told

    private static void tapeEmptyThen() {
        Due.sentence("4: THE TAPE (empty then, by a FAULT, too)");
        String[] texts = {"", COW, "#", "ox", "heat 0;", "heat 1;heat", COW.repeat(9)};
        int[] faults = {0, 0, 1, 2, 3, 4, 5};
        for (int i = 0; i < texts.length; i++) {
            ButterChurn x = new ButterChurn();
            Due.feed(x, texts[i]);
            x.dairy();
            Due.is("fault() of " + texts[i], x.fault(), faults[i]);
            Due.is("count(3) behind " + texts[i], x.count(3), 0);
            Due.is("end(0) behind " + texts[i], x.end(0), 0);
            Due.is("feed behind " + texts[i], x.feed(0x6865617420393b20L), 8);
            Due.is("dairy() of the text behind it", x.dairy(), 1);
        }
    }

    private static void faultsKeepWhatWasTold() {
        Due.sentence("4: by its FAULT: that which was told stays");
        String told = "cow 9 9;drops 1 2 3 4;churn 99;soft 99 9;beat 9 9;grain 6;heat 9;good 9 9;";
        String[] faulty = {told + "#", told + "ox", "cow 0 1;", told + "heat 5;", COW.repeat(9),
            "cow 9 9;heat 50;cow 9 9"};
        for (String text : faulty) {
            ButterChurn x = Look.full();
            x.end(0);
            Due.feed(x, text);
            Due.is("whether it is refused", x.dairy() <= -10 ? 1 : 0, 1);
            ButterChurn y = Look.full(text);
            y.end(0);
            Look.same("behind " + text, x, y);
        }
    }

    private static void tellsAllInPlace() {
        Due.sentence("4: a text that is taken tells all, in place of what there was");
        ButterChurn x = Look.full();
        x.feeds(0, 77);
        x.end(0);
        Due.feed(x, "cow 11 12;cow 13 14;drops 9 8 7 6;churn 99;soft 120 9;beat 8 7;grain 5;heat 6;good 30 40;");
        Due.is("dairy()", x.dairy(), 9);
        int[] rules = {99, 120, 9, 8, 7, 5, 6, 30, 40, BAD, 9, 8, 7, 6};
        for (int what = 0; what < rules.length; what++) {
            Due.is("rule(" + what + ")", x.rule(what), rules[what]);
        }
        Due.is("count(0)", x.count(0), 2);
        Due.is("cow(0, 0)", x.cow(0, 0), 11);
        Due.is("cow(0, 1)", x.cow(0, 1), 12);
        Due.is("cow(1, 0)", x.cow(1, 0), 13);
        Due.is("cow(1, 1)", x.cow(1, 1), 14);
        Due.is("cow(2, 0)", x.cow(2, 0), BAD);
        Due.is("fill(4, 130)", x.fill(4, 130), BAD);
    }

    private static void tellsNoLine() {
        Due.sentence("4: what no line tells is as at first");
        String[] lines = {"drops 9 8 7 6;", "churn 99;", "soft 120 9;", "beat 8 7;", "grain 5;", "heat 6;",
            "good 30 40;"};
        int[][] whats = {{10, 11, 12, 13}, {0}, {1, 2}, {3, 4}, {5}, {6}, {7, 8}};
        int[] first = {100, 130, 10, 10, 20, 4, 10, 20, 80, BAD, 64, 16, 4, 0};
        int[] other = {99, 120, 9, 8, 7, 5, 6, 30, 40, BAD, 9, 8, 7, 6};
        for (int left = 0; left < lines.length; left++) {
            ButterChurn x = Due.told(String.join("", lines));
            Due.feed(x, String.join("", lines).replace(lines[left], ""));
            Due.is("dairy() without " + lines[left], x.dairy(), 6);
            int[] want = other.clone();
            for (int what : whats[left]) {
                want[what] = first[what];
            }
            for (int what = 0; what < want.length; what++) {
                Due.is("rule(" + what + ") without " + lines[left], x.rule(what), want[what]);
            }
            Due.is("count(0)", x.count(0), 0);
        }
    }

    private static void churnIsFilled() {
        Due.sentence("2, 4: A text fills it with all, at WARMTH base");
        ButterChurn x = Look.come();
        Due.is("whether it has come", x.now(5) >= 0 ? 1 : 0, 1);
        x.end(0);
        Due.feed(x, "cow 10 50;cow 20 81;drops 9 8 7 6;soft 77 10;");
        Due.is("dairy()", x.dairy(), 4);
        int fat = 30 * (9 + 16 + 28 + 48);
        // HARD is 2120 by 30, divided down.
        Look.churnIs("filled by a text", x, 30, 77, 70, 0, 0, NONE, fat, fat, 0, 0, 270, 240, 210, 180, 0, 0, 0);
        Look.churnIs("by base 0", Due.told("soft 0 1;"), 0, 0);
        Look.churnIs("by base 400", Due.told("soft 400 1;"), 0, 400);
        Look.churnIs("by eight cows", Due.told("cow 50 100;".repeat(8)), 400, 130, 100);
        Look.churnIs("by one cow", Due.told("cow 1 0;"), 1, 130, 0);
    }

    private static void imagesAndSeenAreGone() {
        Due.sentence("4: IMAGES, what was SEEN are gone");
        ButterChurn x = Look.full();
        x.keep(1);
        Due.is("count(1) ahead", x.count(1), 2);
        Due.is("count(2) ahead", x.count(2), 2);
        x.dairy();
        Due.is("count(1)", x.count(1), 0);
        Due.is("forget()", x.forget(), 0);
        Due.is("why(0)", x.why(0), 189);
        Due.is("count(2)", x.count(2), 0);
        Due.is("back(0)", x.back(0), ButterChurn.STATE);
        Due.is("back(1)", x.back(1), ButterChurn.STATE);
        Due.is("keep(0)", x.keep(0), 0);
        Due.is("keep(1)", x.keep(1), 0);
        // By a text of no line, too.
        x.saw(1, 1);
        x.dairy();
        Due.is("count(1) behind no line", x.count(1), 0);
        Due.is("count(2) behind no line", x.count(2), 0);
    }

    private static void sheetsStay() {
        Due.sentence("4: SHEETS stay");
        ButterChurn x = Look.full();
        x.end(0);
        Due.feed(x, "cow 9 50;churn 400;");
        Due.is("dairy()", x.dairy(), 2);
        Due.is("count(4)", x.count(4), 6);
        Due.is("torn(), of the latest read()", x.torn(), 2);
        Due.is("read(0, 0, 0, 3)", x.read(0, 0, 0, 3), 3);
        Due.is("now(4): 3, 5 and 7 TURNS", x.now(4), 15);
        Due.is("read(1, 1, 0, 2)", x.read(1, 1, 0, 2), 2);
        Due.is("now(4): 200 and 3 more", x.now(4), 218);
        Due.is("read(2, 2, 0, 2)", x.read(2, 2, 0, 2), 2);
        Due.is("now(4): 1 and 2 more", x.now(4), 221);
        Due.is("lay(3, 0, 0), which has nothing", x.lay(3, 0, 0), -11);
    }

    private static void howManyLines() {
        Due.sentence("4: how many lines; -10 less the place of its FAULT");
        Due.text("", 0, 0);
        Due.text(COW, 1, 0);
        Due.text(COW.repeat(8) + "drops 0 0 0 0;churn 10;soft 0 1;beat 0 0;grain 3;heat 1;good 0 0;", 15, 0);
        Due.text("#", -10, 1);
        Due.text(" #", -11, 1);
        Due.text(COW + "#", -18, 1);
    }

    // ---- promises 5 to 8

    private static void faultOfTheLatest() {
        Due.sentence("5: the FAULT of the latest dairy(); 0");
        ButterChurn x = new ButterChurn();
        Due.is("fault() ahead of any", x.fault(), 0);
        String[] texts = {"#", "ox", "heat 0;", "heat 1;heat", COW.repeat(9), COW, "1234", ""};
        int[] faults = {1, 2, 3, 4, 5, 0, 1, 0};
        for (int i = 0; i < texts.length; i++) {
            int before = x.fault();
            Due.feed(x, texts[i]);
            Due.is("fault() as it was fed", x.fault(), before);
            x.dairy();
            Due.is("fault() of " + texts[i], x.fault(), faults[i]);
            x.read(0, 0, 0, 1);
            x.end(-1);
            Due.is("fault() of " + texts[i] + ", once more", x.fault(), faults[i]);
        }
    }

    private static void ruleBounds() {
        Due.sentence("6: RULES 0 to 8; BAD");
        ButterChurn x = Due.told("churn 11;good 5 6;");
        Due.is("rule(0)", x.rule(0), 11);
        Due.is("rule(8)", x.rule(8), 6);
        int[] bad = {-1, 9, -10, Integer.MIN_VALUE, Integer.MAX_VALUE};
        for (int what : bad) {
            Due.is("rule(" + what + ")", x.rule(what), BAD);
        }
    }

    private static void litreBounds() {
        Due.sentence("6: 10 and k: drops of CLASS k (0 to 3) in a litre; BAD");
        ButterChurn x = Due.told("drops 5 6 7 8;");
        Due.is("rule(10)", x.rule(10), 5);
        Due.is("rule(13)", x.rule(13), 8);
        Due.is("rule(9)", x.rule(9), BAD);
        Due.is("rule(14)", x.rule(14), BAD);
        Due.is("rule(16)", x.rule(16), BAD);
    }

    private static void cowBounds() {
        Due.sentence("7: there is no such COW: BAD");
        ButterChurn x = Look.full();
        for (int what = 0; what < 2; what++) {
            Due.is("cow(0, " + what + ")", x.cow(0, what), what == 0 ? 10 : 40);
            Due.is("cow(2, " + what + ")", x.cow(2, what), what == 0 ? 5 : 90);
            int[] bad = {-1, 3, 7, 8, Integer.MIN_VALUE, Integer.MAX_VALUE};
            for (int c : bad) {
                Due.is("cow(" + c + ", " + what + ")", x.cow(c, what), BAD);
            }
        }
    }

    private static void cowOfEight() {
        Due.sentence("7: COWS (8 at most): the last of eight");
        ButterChurn x = Due.told(COW.repeat(7) + "cow 50 100;");
        Due.is("cow(7, 0)", x.cow(7, 0), 50);
        Due.is("cow(7, 1)", x.cow(7, 1), 100);
        Due.is("cow(6, 0)", x.cow(6, 0), 1);
        Due.is("cow(8, 0)", x.cow(8, 0), BAD);
        Due.is("cow(8, 1)", x.cow(8, 1), BAD);
        Due.is("cow(-1, 0)", x.cow(-1, 0), BAD);
    }

    private static void cowWhat() {
        Due.sentence("7: 0 litres, 1 HARD; BAD");
        ButterChurn x = Look.full();
        int[] bad = {-1, 2, Integer.MIN_VALUE, Integer.MAX_VALUE};
        for (int what : bad) {
            Due.is("cow(0, " + what + ")", x.cow(0, what), BAD);
        }
    }

    private static void feedsValue() {
        Due.sentence("8: a COW's HARD becomes v (0 to 100): what it was; BAD");
        Look.refused("feeds a value", BAD, x -> x.feeds(0, -1), x -> x.feeds(0, 101), x -> x.feeds(2, 101),
                x -> x.feeds(2, -1), x -> x.feeds(0, Integer.MIN_VALUE), x -> x.feeds(0, Integer.MAX_VALUE));
        ButterChurn x = Look.full();
        Due.is("feeds(1, 0)", x.feeds(1, 0), 60);
        Due.is("cow(1, 1)", x.cow(1, 1), 0);
        Due.is("feeds(1, 100)", x.feeds(1, 100), 0);
        Due.is("cow(1, 1)", x.cow(1, 1), 100);
        Due.is("feeds(1, 1)", x.feeds(1, 1), 100);
    }

    private static void feedsCow() {
        Due.sentence("8: there is no such COW: BAD");
        Look.refused("feeds a cow", BAD, x -> x.feeds(-1, 50), x -> x.feeds(3, 50), x -> x.feeds(8, 50),
                x -> x.feeds(Integer.MIN_VALUE, 50), x -> x.feeds(Integer.MAX_VALUE, 50));
        ButterChurn x = Due.told(COW.repeat(8));
        Due.is("feeds(7, 9)", x.feeds(7, 9), 2);
        Due.is("feeds(8, 9)", x.feeds(8, 9), BAD);
        Due.is("feeds(0, 9)", x.feeds(0, 9), 2);
        Due.is("cow(7, 1)", x.cow(7, 1), 9);
        Due.is("cow(6, 1)", x.cow(6, 1), 2);
    }

    private static void feedsOnlyTheCow() {
        Due.sentence("8: a COW's HARD, and nothing that is FILLED");
        ButterChurn x = Due.told("cow 10 50;cow 20 60;soft 130 1;");
        x.keep(0);
        x.feeds(0, 100);
        Due.is("cow(0, 0)", x.cow(0, 0), 10);
        Due.is("cow(1, 1)", x.cow(1, 1), 60);
        Due.is("now(2), as it was filled", x.now(2), 56);
        x.back(0);
        Due.is("now(2) of the image", x.now(2), 56);
        Due.is("run(3, 130, 1, 0, 2), filled anew", x.run(3, 130, 1, 0, 2), 73);
    }
}
