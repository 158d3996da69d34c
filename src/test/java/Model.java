import java.math.BigInteger;
import java.util.ArrayList;
import java.util.Arrays;
import java.util.List;
import java.util.regex.Matcher;
import java.util.regex.Pattern;

/** The document told a second time, slowly and with the whole library, to compare with. */
final class Model {
    private static final int BAD = -1, STATE = -2, FULL = -3, NONE = -4;
    private static final Pattern TOKEN = Pattern.compile("[a-z]+|[0-9]+|;");
    private static final List<String> LINES =
            List.of("cow", "drops", "churn", "soft", "beat", "grain", "heat", "good");

    private record Cow(int litres, int hard) { }

    private record Seen(int cows, int turns) { }

    private record Dairy(int[] rules, int[] litre, List<Cow> cows) {
        static Dairy first() {
            return new Dairy(new int[] {100, 130, 10, 10, 20, 4, 10, 20, 80},
                    new int[] {64, 16, 4, 0}, new ArrayList<>());
        }
    }

    /** A fault of a text. */
    private static final class Fault extends Exception {
        private static final long serialVersionUID = 1L;
        final int fault;
        final int place;

        Fault(int fault, int place) {
            this.fault = fault;
            this.place = place;
        }
    }

    private final class Butter {
        long litres, warmth, hard, air, turn, come = NONE;
        long[] drops = new long[7];

        Butter(int bits, int warmth) {
            this.warmth = warmth;
            long sum = 0;
            for (int c = 0; c < dairy.cows.size(); c++) {
                if ((bits & 1 << c) != 0) {
                    litres += dairy.cows.get(c).litres;
                    sum += dairy.cows.get(c).litres * dairy.cows.get(c).hard;
                }
            }
            hard = litres == 0 ? 0 : sum / litres;
            for (int k = 0; k < 4; k++) {
                drops[k] = litres * dairy.litre[k];
            }
        }

        Butter(Butter b) {
            litres = b.litres;
            warmth = b.warmth;
            hard = b.hard;
            air = b.air;
            turn = b.turn;
            come = b.come;
            drops = b.drops.clone();
        }

        long hardness() {
            double less = Math.floor((warmth - dairy.rules[1]) * dairy.rules[2] / 100.0);
            return Math.max(0, Math.min(100, hard - (long) less));
        }

        boolean swollen() {
            return litres + air * dairy.rules[4] / 100 >= dairy.rules[0] && come == NONE;
        }

        long fat(int from, int to) {
            long fat = 0;
            for (int k = from; k <= to; k++) {
                fat += drops[k] * (1L << k);
            }
            return fat;
        }

        long all() {
            return fat(0, 6);
        }

        long left() {
            return fat(0, dairy.rules[5] - 1);
        }

        boolean overdone() {
            return fat(6, 6) * 10 >= all() * 9;
        }

        int what() {
            if (swollen()) {
                return 2;
            }
            if (come == NONE) {
                return 0;
            }
            if (hardness() < dairy.rules[7]) {
                return 3;
            }
            if (overdone()) {
                return 5;
            }
            return left() * 10 > all() ? 4 : 1;
        }

        boolean turn(int pace) {
            boolean swollen = swollen();
            if (!swollen) {
                long rate = Math.min(100, 20L * pace);
                if (come == NONE) {
                    air = Math.min(1000, air + dairy.rules[3] * pace);
                    rate = Math.min(100, hardness() * (100 - hardness()) * air / 25000);
                }
                long[] then = drops.clone();
                for (int k = 0; k < 6; k++) {
                    long two = rate * drops[k] / 200;
                    then[k] -= two + two;
                    then[k + 1] += two;
                }
                drops = then;
                if (come == NONE && all() > 0 && all() - left() >= left()) {
                    come = turn;
                    air = 0;
                }
            }
            turn++;
            if (turn % dairy.rules[6] == 0) {
                warmth = Math.min(400, warmth + pace);
            }
            return !swollen;
        }

        void half() {
            litres /= 2;
            air /= 2;
            drops = Arrays.stream(drops).map(n -> n / 2).toArray();
        }

        long now(int what) {
            long[] told = {litres, warmth, hardness(), air, turn, come, left(), all(),
                swollen() ? 1 : 0, what()};
            return told[what];
        }

        long comes(int pace) {
            for (int n = 1; n <= 400; n++) {
                turn(pace);
                if (come != NONE) {
                    return n;
                }
            }
            return NONE;
        }
    }

    private Dairy dairy = Dairy.first();
    private Butter churn = new Butter(0, 130);
    private String tape = "";
    private int fault;
    private final List<Seen> seen = new ArrayList<>();
    private final Butter[] images = new Butter[2];
    private final Object[] sheets = new Object[4];
    private int torn;

    /** What a call answers; a name and its arguments. */
    long call(String name, long[] arg) {
        int[] a = Arrays.stream(arg).mapToInt(v -> (int) v).toArray();
        return switch (name) {
            case "feed" -> feed(arg[0]);
            case "end" -> end(a[0]);
            case "dairy" -> dairy();
            case "fault" -> fault;
            case "rule" -> in(a[0], 0, 8) ? dairy.rules[a[0]]
                    : in(a[0], 10, 13) ? dairy.litre[a[0] - 10] : BAD;
            case "cow" -> !hasCow(a[0]) || !in(a[1], 0, 1) ? BAD
                    : a[1] == 0 ? dairy.cows.get(a[0]).litres : dairy.cows.get(a[0]).hard;
            case "feeds" -> feeds(a[0], a[1]);
            case "fill" -> fill(a[0], a[1]);
            case "turn" -> turn(a[0], a[1]);
            case "warm" -> warm(a[0]);
            case "half" -> {
                churn.half();
                yield churn.litres;
            }
            case "now" -> in(a[0], 0, 9) ? churn.now(a[0]) : BAD;
            case "drops" -> in(a[0], 0, 6) ? churn.drops[a[0]] : BAD;
            case "run" -> run(a[0], a[1], a[2], a[3], a[4]);
            case "comes" -> isRun(a[0], a[1], a[2]) ? new Butter(a[0], a[1]).comes(a[2]) : BAD;
            case "plan" -> plan(a[0], a[1]);
            case "without" -> without(a[0]);
            case "saw" -> saw(a[0], a[1]);
            case "forget" -> forget();
            case "why" -> why(a[0]);
            case "next" -> next(a[0], a[1]);
            case "over" -> over(a[0]);
            case "wash" -> wash(a[0], a[1], a[2], a[3]);
            case "washes" -> washes(a[0], a[1], a[2], a[3]);
            case "split" -> split(a[0], a[1]);
            case "worked" -> in(a[0], 0, 9999999) && in(a[1], 0, 6) && in(a[2], 0, 6)
                    ? water(a[0], a[1])[a[2]] : BAD;
            case "keeps" -> keeps(a[0], a[1]);
            case "rod" -> rod(a[0], a[1], a[2], a[3], a[4]);
            case "near" -> near(a[0], a[1], a[2], a[3], a[4]);
            case "witch" -> witch(a[0], a[1], a[2], a[3], a[4]);
            case "keep" -> keep(a[0]);
            case "back" -> back(a[0]);
            case "sheet" -> sheet(a[0], a[1], a[2]);
            case "lay" -> lay(a[0], a[1], a[2]);
            case "read" -> read(a[0], a[1], a[2], a[3]);
            case "torn" -> torn;
            case "count" -> count(a[0]);
            default -> throw new IllegalArgumentException(name);
        };
    }

    /** Which it is (0 to 5), to see whether the calls came by all of them. */
    int outcome() {
        return churn.what();
    }

    private static boolean in(long v, long least, long most) {
        return v >= least && v <= most;
    }

    private boolean hasCow(int c) {
        return in(c, 0, dairy.cows.size() - 1);
    }

    private boolean hasCows(int bits) {
        return bits >= 0 && bits >>> dairy.cows.size() == 0;
    }

    private int all() {
        return (1 << dairy.cows.size()) - 1;
    }

    private boolean isRun(int cows, int warm, int pace) {
        return hasCows(cows) && in(warm, 0, 400) && in(pace, 1, 9);
    }

    private long feed(long v) {
        if (tape.length() + 8 > 320) {
            return FULL;
        }
        StringBuilder more = new StringBuilder(tape);
        for (int i = 7; i >= 0; i--) {
            more.append((char) (v >>> 8 * i & 255));
        }
        tape = more.toString();
        return tape.length();
    }

    private long end(int n) {
        if (!in(n, 0, tape.length())) {
            return BAD;
        }
        int before = tape.length();
        tape = tape.substring(0, n);
        return before;
    }

    private long dairy() {
        String text = tape;
        tape = "";
        try {
            int[] lines = {0};
            Dairy told = tell(text, lines);
            dairy = told;
            churn = new Butter(all(), dairy.rules[1]);
            Arrays.fill(images, null);
            seen.clear();
            fault = 0;
            return lines[0];
        } catch (Fault f) {
            fault = f.fault;
            return -10 - f.place;
        }
    }

    /** Where the next token begins; the length if there is none. */
    private static int skip(String text, int at) {
        int place = at;
        while (place < text.length() && text.charAt(place) == ' ') {
            place++;
        }
        return place;
    }

    private static String token(String text, int place) throws Fault {
        if (place == text.length()) {
            return "";
        }
        Matcher m = TOKEN.matcher(text).region(place, text.length());
        if (!m.lookingAt() || Character.isDigit(m.group().charAt(0)) && m.group().length() > 3) {
            throw new Fault(1, place);
        }
        return m.group();
    }

    private static Dairy tell(String text, int[] lines) throws Fault {
        Dairy told = Dairy.first();
        List<String> met = new ArrayList<>();
        int place = skip(text, 0);
        while (place < text.length()) {
            String name = token(text, place);
            if (!LINES.contains(name)) {
                throw new Fault(2, place);
            }
            if (!name.equals("cow") && met.contains(name)) {
                throw new Fault(4, place);
            }
            if (name.equals("cow") && told.cows.size() == 8) {
                throw new Fault(5, place);
            }
            met.add(name);
            place = skip(text, place + name.length());
            List<Integer> numbers = new ArrayList<>();
            int[][] bounds = bounds(name);
            for (int[] bound : bounds) {
                String number = token(text, place);
                if (number.isEmpty() || !Character.isDigit(number.charAt(0))) {
                    throw new Fault(2, place);
                }
                int v = Integer.parseInt(number);
                boolean lessThanLow = name.equals("good") && numbers.size() == 1 && v < numbers.get(0);
                if (v < bound[0] || v > bound[1] || lessThanLow) {
                    throw new Fault(3, place);
                }
                numbers.add(v);
                place = skip(text, place + number.length());
            }
            if (!token(text, place).equals(";")) {
                throw new Fault(2, place);
            }
            place = skip(text, place + 1);
            take(told, name, numbers);
            lines[0]++;
        }
        return told;
    }

    private static int[][] bounds(String name) {
        return switch (name) {
            case "cow" -> new int[][] {{1, 50}, {0, 100}};
            case "drops" -> new int[][] {{0, 99}, {0, 99}, {0, 99}, {0, 99}};
            case "churn" -> new int[][] {{10, 400}};
            case "soft" -> new int[][] {{0, 400}, {1, 99}};
            case "beat" -> new int[][] {{0, 50}, {0, 99}};
            case "grain" -> new int[][] {{3, 6}};
            case "heat" -> new int[][] {{1, 99}};
            default -> new int[][] {{0, 100}, {0, 100}};
        };
    }

    private static void take(Dairy told, String name, List<Integer> numbers) {
        if (name.equals("cow")) {
            told.cows.add(new Cow(numbers.get(0), numbers.get(1)));
        } else if (name.equals("drops")) {
            for (int k = 0; k < 4; k++) {
                told.litre[k] = numbers.get(k);
            }
        } else {
            int first = List.of("churn", "soft", "", "beat", "", "grain", "heat", "good").indexOf(name);
            for (int i = 0; i < numbers.size(); i++) {
                told.rules[first + i] = numbers.get(i);
            }
        }
    }

    private long feeds(int c, int v) {
        if (!hasCow(c) || !in(v, 0, 100)) {
            return BAD;
        }
        Cow cow = dairy.cows.set(c, new Cow(dairy.cows.get(c).litres, v));
        return cow.hard;
    }

    private long fill(int cows, int warm) {
        if (!hasCows(cows) || !in(warm, 0, 400)) {
            return BAD;
        }
        churn = new Butter(cows, warm);
        return churn.litres;
    }

    private long turn(int n, int pace) {
        if (!in(n, 1, 400) || !in(pace, 1, 9)) {
            return BAD;
        }
        long fell = 0;
        for (int i = 0; i < n; i++) {
            fell += churn.turn(pace) ? 1 : 0;
        }
        return fell;
    }

    private long warm(int v) {
        if (!in(v, 0, 400)) {
            return BAD;
        }
        long before = churn.warmth;
        churn.warmth = v;
        return before;
    }

    private long run(int cows, int warm, int pace, int n, int what) {
        if (!isRun(cows, warm, pace) || !in(n, 0, 400) || !in(what, 0, 16)) {
            return BAD;
        }
        Butter b = new Butter(cows, warm);
        for (int i = 0; i < n; i++) {
            b.turn(pace);
        }
        return what < 10 ? b.now(what) : b.drops[what - 10];
    }

    private long plan(int cows, int what) {
        if (!hasCows(cows) || !in(what, 0, 3)) {
            return BAD;
        }
        List<long[]> plans = new ArrayList<>();
        for (int warm = 0; warm <= 400; warm += 20) {
            for (int pace = 1; pace <= 9; pace++) {
                Butter b = new Butter(cows, warm);
                long turns = b.comes(pace);
                if (turns != NONE && in(b.hardness(), dairy.rules[7], dairy.rules[8])) {
                    plans.add(new long[] {b.left(), turns, warm, pace});
                }
            }
        }
        plans.sort(Arrays::compare);
        return plans.isEmpty() ? NONE : plans.get(0)[new int[] {2, 3, 1, 0}[what]];
    }

    private long without(int what) {
        if (!in(what, 0, 1)) {
            return BAD;
        }
        for (int many = 0; many < dairy.cows.size(); many++) {
            for (int out = 0; out < 1 << dairy.cows.size(); out++) {
                long hard = new Butter(all() ^ out, 0).hard;
                if (Integer.bitCount(out) == many && in(hard, dairy.rules[7], dairy.rules[8])) {
                    return what == 0 ? many : out;
                }
            }
        }
        return NONE;
    }

    private long saw(int cows, int turns) {
        if (!hasCows(cows) || !in(turns, 0, 400)) {
            return BAD;
        }
        if (seen.size() == 8) {
            return FULL;
        }
        seen.add(new Seen(cows, turns));
        return seen.size();
    }

    private long forget() {
        int before = seen.size();
        seen.clear();
        return before;
    }

    private long why(int what) {
        if (!in(what, 0, 2)) {
            return BAD;
        }
        List<long[]> ways = new ArrayList<>();
        for (int warm = 0; warm <= 400; warm += 20) {
            for (int pace = 1; pace <= 9; pace++) {
                boolean all = true;
                for (Seen s : seen) {
                    long turns = new Butter(s.cows, warm).comes(pace);
                    all = all && (turns == NONE ? 0 : turns) == s.turns;
                }
                if (all) {
                    ways.add(new long[] {0, warm, pace});
                }
            }
        }
        return what == 0 ? ways.size() : ways.isEmpty() ? NONE : ways.get(0)[what];
    }

    private long next(int pace, int what) {
        if (!in(pace, 1, 9) || !in(what, 0, 1)) {
            return BAD;
        }
        if (churn.come != NONE) {
            return STATE;
        }
        List<long[]> deeds = new ArrayList<>();
        for (int deed = 0; deed < 4; deed++) {
            Butter b = new Butter(churn);
            switch (deed) {
                case 1 -> b.half();
                case 2 -> b.warmth = Math.min(b.warmth + 20, 400);
                case 3 -> b.warmth = Math.max(b.warmth - 20, 0);
                default -> { }
            }
            long turns = b.comes(pace);
            if (turns != NONE) {
                deeds.add(new long[] {turns, deed});
            }
        }
        deeds.sort(Arrays::compare);
        return deeds.isEmpty() ? NONE : deeds.get(0)[1 - what];
    }

    private long over(int pace) {
        if (!in(pace, 1, 9)) {
            return BAD;
        }
        if (churn.come == NONE) {
            return STATE;
        }
        Butter b = new Butter(churn);
        for (int n = 0; n <= 400; n++) {
            if (b.overdone()) {
                return n;
            }
            b.turn(pace);
        }
        return NONE;
    }

    /** A fraction of whole numbers, in lowest terms. */
    private record Fraction(BigInteger over, BigInteger under) implements Comparable<Fraction> {
        static Fraction of(long over, long under) {
            BigInteger a = BigInteger.valueOf(over);
            BigInteger b = BigInteger.valueOf(under);
            BigInteger both = a.gcd(b);
            return new Fraction(a.divide(both), b.divide(both));
        }

        Fraction times(Fraction f) {
            BigInteger a = over.multiply(f.over);
            BigInteger b = under.multiply(f.under);
            BigInteger both = a.gcd(b);
            return new Fraction(a.divide(both), b.divide(both));
        }

        Fraction plus(Fraction f) {
            BigInteger a = over.multiply(f.under).add(f.over.multiply(under));
            BigInteger b = under.multiply(f.under);
            BigInteger both = a.gcd(b);
            return new Fraction(a.divide(both), b.divide(both));
        }

        long part(int what) {
            return (what == 0 ? over : under).longValueExact();
        }

        @Override
        public int compareTo(Fraction f) {
            return over.multiply(f.under).compareTo(f.over.multiply(under));
        }
    }

    private static Fraction stays(int m, int w, int k) {
        Fraction f = Fraction.of(m, 1);
        for (int i = 0; i < k; i++) {
            f = f.times(Fraction.of(m, m + w));
        }
        return f;
    }

    private static long wash(int m, int w, int k, int what) {
        boolean good = in(m, 1, 99) && in(w, 0, 99) && in(k, 0, 5) && in(what, 0, 1);
        return good ? stays(m, w, k).part(what) : BAD;
    }

    private static long washes(int m, int w, int a, int b) {
        if (!in(m, 1, 99) || !in(w, 0, 99) || !in(a, 0, 99) || !in(b, 1, 99)) {
            return BAD;
        }
        for (int k = 0; k <= 5; k++) {
            if (stays(m, w, k).compareTo(Fraction.of(a, b)) <= 0) {
                return k;
            }
        }
        return NONE;
    }

    private static long split(int m, int w) {
        if (!in(m, 1, 99) || !in(w, 0, 99)) {
            return BAD;
        }
        int best = 0;
        for (int x = 1; x <= w; x++) {
            Fraction now = stays(m, x, 1).times(Fraction.of(m, m + w - x));
            if (now.compareTo(stays(m, best, 1).times(Fraction.of(m, m + w - best))) < 0) {
                best = x;
            }
        }
        return best;
    }

    private static long[] water(int v, int p) {
        long[] drops = new long[7];
        String figures = String.format("%07d", v);
        for (int k = 0; k < 7; k++) {
            drops[k] = figures.charAt(6 - k) - '0';
        }
        for (int i = 0; i < p; i++) {
            long[] then = new long[7];
            then[0] = drops[0];
            for (int k = 1; k < 7; k++) {
                then[k - 1] += 2 * drops[k];
            }
            drops = then;
        }
        return drops;
    }

    private static long keeps(int v, int p) {
        if (!in(v, 0, 9999999) || !in(p, 0, 6)) {
            return BAD;
        }
        long[] drops = water(v, p);
        for (int k = 6; k > 0; k--) {
            if (drops[k] > 0) {
                return 64 / (1 << k);
            }
        }
        return 64;
    }

    private static Fraction above(int r, int a, int b, int c) {
        int[] chance = {a, b, c};
        Fraction f = Fraction.of(0, 1);
        for (int off = -1; off <= 1; off++) {
            if (r - off > 16) {
                f = f.plus(Fraction.of(chance[off + 1], a + b + c));
            }
        }
        return f;
    }

    private static boolean isRod(int a, int b, int c) {
        return in(a, 0, 9) && in(b, 0, 9) && in(c, 0, 9) && (a != 0 || b != 0 || c != 0);
    }

    private static long rod(int r, int a, int b, int c, int what) {
        return in(r, 0, 30) && isRod(a, b, c) && in(what, 0, 1) ? above(r, a, b, c).part(what) : BAD;
    }

    private static long near(int a, int b, int c, int x, int y) {
        if (!isRod(a, b, c) || !in(x, 0, 99) || !in(y, 1, 99)) {
            return BAD;
        }
        int r = 30;
        while (above(r, a, b, c).compareTo(Fraction.of(x, y)) > 0) {
            r--;
        }
        return r;
    }

    private static long witch(int n, int k, int a, int b, int what) {
        if (!in(n, 1, 12) || !in(k, 0, n) || !in(b, 1, 9) || !in(a, 0, b) || !in(what, 0, 1)) {
            return BAD;
        }
        Fraction sum = Fraction.of(0, 1);
        for (int days = 0; days < 1 << n; days++) {
            if (Integer.bitCount(days) >= k) {
                Fraction f = Fraction.of(1, 1);
                for (int i = 0; i < n; i++) {
                    f = f.times(Fraction.of((days >> i & 1) == 1 ? a : b - a, b));
                }
                sum = sum.plus(f);
            }
        }
        return sum.part(what);
    }

    private long keep(int k) {
        if (!in(k, 0, 1)) {
            return BAD;
        }
        int before = images[k] == null ? 0 : 1;
        images[k] = new Butter(churn);
        return before;
    }

    private long back(int k) {
        if (!in(k, 0, 1)) {
            return BAD;
        }
        if (images[k] == null) {
            return STATE;
        }
        churn = new Butter(images[k]);
        return churn.turn;
    }

    /** The fault by which the machine itself refuses. */
    private static int fault(RuntimeException refused) {
        if (refused instanceof NullPointerException) {
            return 1;
        }
        if (refused instanceof IndexOutOfBoundsException) {
            return 2;
        }
        return refused instanceof ClassCastException ? 3 : 4;
    }

    private long sheet(int k, int lane, int n) {
        if (!in(k, 0, 3) || !in(lane, 0, 2) || n > 40) {
            return BAD;
        }
        try {
            sheets[k] = lane == 0 ? new byte[n] : lane == 1 ? new short[n] : (Object) new int[n];
            return 1;
        } catch (NegativeArraySizeException refused) {
            return -10 - fault(refused);
        }
    }

    private long lay(int k, int i, int v) {
        if (!in(k, 0, 3)) {
            return BAD;
        }
        try {
            if (sheets[k] instanceof byte[] row) {
                row[i] = (byte) v;
            } else if (sheets[k] instanceof short[] row) {
                row[i] = (short) v;
            } else {
                ((int[]) sheets[k])[i] = v;
            }
            return 1;
        } catch (RuntimeException refused) {
            return -10 - fault(refused);
        }
    }

    private int cell(int k, int lane, int i) {
        return switch (lane) {
            case 0 -> ((byte[]) sheets[k])[i];
            case 1 -> ((short[]) sheets[k])[i];
            default -> ((int[]) sheets[k])[i];
        };
    }

    private long read(int k, int lane, int f, int n) {
        if (!in(k, 0, 3) || !in(lane, 0, 2) || !in(n, 0, 20)) {
            return BAD;
        }
        List<int[]> whole = new ArrayList<>();
        int found = 0;
        try {
            for (int i = 0; i < n; i++) {
                int turns = cell(k, lane, f + 2 * i);
                int pace = cell(k, lane, f + 2 * i + 1);
                whole.add(new int[] {turns, pace});
            }
        } catch (RuntimeException refused) {
            found = fault(refused);
        }
        for (int i = 0; i < whole.size(); i++) {
            if (!in(whole.get(i)[0], 1, 400) || !in(whole.get(i)[1], 1, 9)) {
                return -20 - i;
            }
        }
        for (int[] one : whole) {
            turn(one[0], one[1]);
        }
        torn = found;
        return whole.size();
    }

    private long count(int what) {
        return switch (what) {
            case 0 -> dairy.cows.size();
            case 1 -> seen.size();
            case 2 -> Arrays.stream(images).filter(image -> image != null).count();
            case 3 -> tape.length();
            case 4 -> sheets[0] == null ? NONE : java.lang.reflect.Array.getLength(sheets[0]);
            default -> BAD;
        };
    }
}
