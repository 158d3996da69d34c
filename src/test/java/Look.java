import java.util.ArrayList;
import java.util.List;
import java.util.function.Supplier;

/** All that can be asked of an object, and refused calls, which must leave all of it as it is. */
final class Look {
    /** A call on an object. */
    interface Call {
        long on(ButterChurn x);
    }

    private static final String TEXT = "cow 10 40;cow 20 60;cow 5 90;churn 200;soft 130 12;beat 9 15;heat 7;"
            + "good 30 60;drops 60 20 5 1;";

    private Look() {
    }

    /** An object that has something of everything; a fault of its text was 3. */
    static ButterChurn full() {
        return full("heat 0;");
    }

    /** The same by another text with a fault. */
    static ButterChurn full(String faulty) {
        ButterChurn x = Due.told(TEXT);
        Due.feed(x, faulty);
        x.dairy();
        x.saw(7, x.comes(7, 140, 5));
        x.saw(4, x.comes(4, 140, 5));
        row(x, 0, 0, 3, 4, 5, 6, 7, 8);
        row(x, 1, 1, 200, 2, 3, 9);
        row(x, 2, 2, 1, 1, 2, 2, 3);
        x.read(2, 2, 0, 3);
        x.fill(3, 150);
        x.turn(5, 4);
        x.keep(0);
        x.fill(7, 120);
        x.turn(4, 3);
        Due.feed(x, "cow 7 7;heat 3;");
        return x;
    }

    /** A full object whose churn has come. */
    static ButterChurn come() {
        ButterChurn x = full();
        x.turn(60, 5);
        return x;
    }

    static void row(ButterChurn x, int k, int lane, int... cells) {
        x.sheet(k, lane, cells.length);
        for (int i = 0; i < cells.length; i++) {
            x.lay(k, i, cells[i]);
        }
    }

    /** What now() and drops() tell. */
    static int[] churn(ButterChurn x) {
        int[] told = new int[17];
        for (int i = 0; i < 17; i++) {
            told[i] = i < 10 ? x.now(i) : x.drops(i - 10);
        }
        return told;
    }

    static void churnIs(String what, ButterChurn x, int... want) {
        int[] got = churn(x);
        for (int i = 0; i < want.length; i++) {
            Due.is(what + ": " + (i < 10 ? "now(" + i : "drops(" + (i - 10)) + ")", got[i], want[i]);
        }
    }

    /** All that an object tells; it is used up by that. */
    static List<Integer> all(ButterChurn x) {
        List<Integer> told = new ArrayList<>();
        settings(x, told);
        told.add(x.torn());
        add(told, churn(x));
        for (int what = 0; what < 3; what++) {
            told.add(x.why(what));
        }
        for (int k = 0; k < 2; k++) {
            told.add(x.back(k));
            add(told, churn(x));
        }
        for (int k = 0; k < 4; k++) {
            for (int lane = 0; lane < 3; lane++) {
                x.fill(1, 130);
                told.add(x.read(k, lane, 0, 20));
                told.add(x.torn());
                add(told, churn(x));
            }
        }
        told.add(x.dairy());
        settings(x, told);
        return told;
    }

    private static void settings(ButterChurn x, List<Integer> told) {
        for (int what = 0; what < 5; what++) {
            told.add(x.count(what));
        }
        for (int what = 0; what < 14; what++) {
            told.add(x.rule(what));
        }
        for (int c = 0; c < 4; c++) {
            told.add(x.cow(c, 0));
            told.add(x.cow(c, 1));
        }
        told.add(x.fault());
    }

    private static void add(List<Integer> told, int[] more) {
        for (int v : more) {
            told.add(v);
        }
    }

    /** That two objects tell the same; both are used up by that. */
    static void same(String what, ButterChurn x, ButterChurn y) {
        List<Integer> got = all(x);
        List<Integer> want = all(y);
        for (int i = 0; i < want.size(); i++) {
            Due.is(what + ": number " + i + " of all that is told", got.get(i), want.get(i));
        }
    }

    /** Each of these calls is refused by a full object, and changes nothing. */
    static void refused(String what, long answer, Call... calls) {
        refused(what, Look::full, answer, calls);
    }

    static void refused(String what, Supplier<ButterChurn> made, long answer, Call... calls) {
        List<Integer> want = all(made.get());
        for (int i = 0; i < calls.length; i++) {
            ButterChurn x = made.get();
            if (!Due.is(what + ", refused call " + i, calls[i].on(x), answer)) {
                return;
            }
            Due.is(what + ", whether call " + i + " changed nothing", all(x).equals(want) ? 1 : 0, 1);
        }
    }

    /** Each of these calls of a full object is taken. */
    static void taken(String what, Call... calls) {
        for (int i = 0; i < calls.length; i++) {
            Due.is(what + ", whether call " + i + " is taken", calls[i].on(full()) >= 0 ? 1 : 0, 1);
        }
    }
}
