/** Butter that will not come: cows, a churn, runs and plans, washing, the law, images, sheets. */
public final class ButterChurn {
    public static final int BAD = -1, STATE = -2, FULL = -3, NONE = -4;

    private static final int MOST_WARMTH = 400;
    private static final int WARMTH_STEP = 20;
    private static final int MOST_PACE = 9;
    private static final int MOST_TURNS = 400;
    private static final int MOST_WASHES = 5;
    private static final int MOST_PASSES = 6;
    private static final int MOST_SHOWN = 30;
    private static final int LAW = 16;
    private static final int REFUSED_TEXT = -10;
    private static final int REFUSED_CELL = -10;
    private static final int REFUSED_TURN = -20;

    private final Told told = new Told();
    private final Reading reading = new Reading();
    private final Churn churn = new Churn();
    private final Churn trial = new Churn();
    private final Best best = new Best();
    private final Image[] images = {new Image(), new Image()};
    private final Sheet[] sheets = {new Sheet(), new Sheet(), new Sheet(), new Sheet()};
    private final int[] seenCows = new int[8];
    private final int[] seenTurns = new int[8];
    private final int[] water = new int[Churn.CLASSES];
    private int seen;
    private int tornFault;

    public ButterChurn() {
        churn.warmth = told.base();
    }

    // ---- the text

    /** Eight bytes come behind the tape. */
    public int feed(long v) {
        return reading.tape.put(v) ? reading.tape.length : FULL;
    }

    /** The tape keeps its first n bytes. */
    public int end(int n) {
        if (outside(n, 0, reading.tape.length)) {
            return BAD;
        }
        int before = reading.tape.length;
        reading.tape.length = n;
        return before;
    }

    /** The tape tells all. */
    public int dairy() {
        int lines = reading.readAll();
        reading.tape.length = 0;
        if (reading.fault != 0) {
            return REFUSED_TEXT - reading.faultPlace;
        }
        told.becomeLike(reading.draft);
        churn.fillWith(told, told.allCows(), told.base());
        seen = 0;
        for (Image image : images) {
            image.there = false;
        }
        return lines;
    }

    /** The fault of the latest dairy(). */
    public int fault() {
        return reading.fault;
    }

    /** One of the rules, or how many drops of a class a litre has. */
    public int rule(int what) {
        if (what >= 0 && what < told.rules.length) {
            return told.rules[what];
        }
        if (what >= 10 && what - 10 < told.litreDrops.length) {
            return told.litreDrops[what - 10];
        }
        return BAD;
    }

    /** A cow's litres or HARD. */
    public int cow(int c, int what) {
        if (!told.hasCow(c) || outside(what, 0, 1)) {
            return BAD;
        }
        return what == 0 ? told.litres[c] : told.hards[c];
    }

    /** A cow's HARD becomes v. */
    public int feeds(int c, int v) {
        if (!told.hasCow(c) || outside(v, 0, 100)) {
            return BAD;
        }
        int before = told.hards[c];
        told.hards[c] = v;
        return before;
    }

    // ---- the churn

    /** The churn is filled with some cows. */
    public int fill(int cows, int warm) {
        if (!told.hasCows(cows) || outside(warm, 0, MOST_WARMTH)) {
            return BAD;
        }
        churn.fillWith(told, cows, warm);
        return churn.litres;
    }

    /** The churn is turned n times. */
    public int turn(int n, int pace) {
        if (isBadTurn(n, pace)) {
            return BAD;
        }
        return turnChurn(n, pace);
    }

    /** The churn's warmth becomes v. */
    public int warm(int v) {
        if (outside(v, 0, MOST_WARMTH)) {
            return BAD;
        }
        int before = churn.warmth;
        churn.warmth = v;
        return before;
    }

    /** Half of it is taken out. */
    public int half() {
        churn.halve();
        return churn.litres;
    }

    /** What is asked of the churn as it is now. */
    public int now(int what) {
        return outside(what, 0, 9) ? BAD : churn.tell(told, what);
    }

    /** Drops of a class in the churn. */
    public int drops(int k) {
        return churn.dropsOf(k);
    }

    // ---- runs, plans

    /** What is asked of a run by itself. */
    public int run(int cows, int warm, int pace, int n, int what) {
        if (isBadRun(cows, warm, pace) || outside(n, 0, MOST_TURNS) || outside(what, 0, 16)) {
            return BAD;
        }
        trial.fillWith(told, cows, warm);
        for (int i = 0; i < n; i++) {
            trial.turnOnce(told, pace);
        }
        return what < 10 ? trial.tell(told, what) : trial.dropsOf(what - 10);
    }

    /** How many turns a run takes till it has come. */
    public int comes(int cows, int warm, int pace) {
        if (isBadRun(cows, warm, pace)) {
            return BAD;
        }
        trial.fillWith(told, cows, warm);
        return turnTrialTillCome(pace, MOST_TURNS);
    }

    /** The warmth and pace by which least is left. */
    public int plan(int cows, int what) {
        if (!told.hasCows(cows) || outside(what, 0, 3)) {
            return BAD;
        }
        findBest(cows);
        return best.there ? best.tell(what) : NONE;
    }

    /** The fewest cows to be left out. */
    public int without(int what) {
        if (outside(what, 0, 1)) {
            return BAD;
        }
        int all = told.allCows();
        int out = NONE;
        for (int bits = 0; bits < all; bits++) {
            boolean fewer = out == NONE || Integer.bitCount(bits) < Integer.bitCount(out);
            if (fewer && told.isGood(told.hardOf(all & ~bits))) {
                out = bits;
            }
        }
        return out == NONE || what == 1 ? out : Integer.bitCount(out);
    }

    /** A run that was seen. */
    public int saw(int cows, int turns) {
        if (!told.hasCows(cows) || outside(turns, 0, MOST_TURNS)) {
            return BAD;
        }
        if (seen >= seenCows.length || seen >= seenTurns.length) {
            return FULL;
        }
        seenCows[seen] = cows;
        seenTurns[seen] = turns;
        seen++;
        return seen;
    }

    /** What was seen is forgotten. */
    public int forget() {
        int before = seen;
        seen = 0;
        return before;
    }

    /** The ways by which all is as it was seen. */
    public int why(int what) {
        if (outside(what, 0, 2)) {
            return BAD;
        }
        int ways = 0;
        for (int warm = 0; warm <= MOST_WARMTH; warm += WARMTH_STEP) {
            for (int pace = 1; pace <= MOST_PACE; pace++) {
                if (isAsSeen(warm, pace)) {
                    if (what != 0) {
                        return what == 1 ? warm : pace;
                    }
                    ways++;
                }
            }
        }
        return what == 0 ? ways : NONE;
    }

    /** What to do now so that it comes soonest. */
    public int next(int pace, int what) {
        if (outside(pace, 1, MOST_PACE) || outside(what, 0, 1)) {
            return BAD;
        }
        if (churn.hasCome()) {
            return STATE;
        }
        int soonest = NONE;
        int first = NONE;
        for (int deed = 0; deed <= 3; deed++) {
            tryDeed(deed);
            int turns = turnTrialTillCome(pace, MOST_TURNS);
            if (turns != NONE && (soonest == NONE || turns < soonest)) {
                soonest = turns;
                first = deed;
            }
        }
        return what == 0 ? first : soonest;
    }

    /** The fewest turns from now on behind which it is overdone. */
    public int over(int pace) {
        if (outside(pace, 1, MOST_PACE)) {
            return BAD;
        }
        if (!churn.hasCome()) {
            return STATE;
        }
        trial.becomeLike(churn);
        for (int turns = 0; turns <= MOST_TURNS; turns++) {
            if (trial.isMostlyGreatest()) {
                return turns;
            }
            trial.turnOnce(told, pace);
        }
        return NONE;
    }

    // ---- washed, worked

    /** How much milk stays behind k washes, as a fraction. */
    public long wash(int m, int w, int k, int what) {
        if (isBadWash(m, w) || outside(k, 0, MOST_WASHES) || outside(what, 0, 1)) {
            return BAD;
        }
        return lowest(power(m, k + 1), power(m + w, k), what);
    }

    /** The fewest washes by which no more than a by b stays. */
    public int washes(int m, int w, int a, int b) {
        if (isBadWash(m, w) || isBadShare(a, b)) {
            return BAD;
        }
        for (int k = 0; k <= MOST_WASHES; k++) {
            if (power(m, k + 1) * b <= a * power(m + w, k)) {
                return k;
            }
        }
        return NONE;
    }

    /** How much of the water goes into the first of two washes. */
    public int split(int m, int w) {
        if (isBadWash(m, w)) {
            return BAD;
        }
        int first = 0;
        // What stays is m times m times m by this product, so the greatest product leaves least.
        int greatest = 0;
        for (int x = 0; x <= w; x++) {
            int product = (m + x) * (m + w - x);
            if (product > greatest) {
                greatest = product;
                first = x;
            }
        }
        return first;
    }

    /** Drops of water of class k behind p passes. */
    public int worked(int v, int p, int k) {
        if (isBadWater(v, p) || k < 0 || k >= water.length) {
            return BAD;
        }
        workWater(v, p);
        return water[k];
    }

    /** Days that the butter keeps behind p passes. */
    public int keeps(int v, int p) {
        if (isBadWater(v, p)) {
            return BAD;
        }
        workWater(v, p);
        int greatest = 0;
        for (int k = 0; k < water.length; k++) {
            if (water[k] > 0) {
                greatest = k;
            }
        }
        return 64 >> greatest;
    }

    // ---- the law, chance

    /** The chance that the water is above the law, as a fraction. */
    public int rod(int r, int a, int b, int c, int what) {
        if (outside(r, 0, MOST_SHOWN) || isBadRod(a, b, c) || outside(what, 0, 1)) {
            return BAD;
        }
        return (int) lowest(chancesAbove(r, a, b, c), a + b + c, what);
    }

    /** The greatest water shown at which that chance is no more than x by y. */
    public int near(int a, int b, int c, int x, int y) {
        if (isBadRod(a, b, c) || isBadShare(x, y)) {
            return BAD;
        }
        int greatest = NONE;
        for (int r = 0; r <= MOST_SHOWN; r++) {
            if (chancesAbove(r, a, b, c) * y <= x * (a + b + c)) {
                greatest = r;
            }
        }
        return greatest;
    }

    /** The chance that of n days k or more are bad, as a fraction. */
    public long witch(int n, int k, int a, int b, int what) {
        if (outside(n, 1, 12) || outside(k, 0, n) || outside(b, 1, 9) || outside(a, 0, b)
                || outside(what, 0, 1)) {
            return BAD;
        }
        long bad = 0;
        // How many ways there are to choose i of the n days; it is kept along from i to i + 1.
        long ways = 1;
        for (int i = 0; i <= n; i++) {
            if (i >= k) {
                bad += ways * power(a, i) * power(b - a, n - i);
            }
            ways = ways * (n - i) / (i + 1);
        }
        return lowest(bad, power(b, n), what);
    }

    // ---- images, sheets

    /** An image becomes like the churn. */
    public int keep(int k) {
        Image image = imageAt(k);
        if (image == null) {
            return BAD;
        }
        int before = image.there ? 1 : 0;
        image.churn.becomeLike(churn);
        image.there = true;
        return before;
    }

    /** The churn becomes like an image. */
    public int back(int k) {
        Image image = imageAt(k);
        if (image == null) {
            return BAD;
        }
        if (!image.there) {
            return STATE;
        }
        churn.becomeLike(image.churn);
        return churn.turns;
    }

    /** A sheet is a new row. */
    public int sheet(int k, int lane, int n) {
        Sheet sheet = sheetAt(k);
        if (sheet == null || outside(lane, 0, 2) || n > Sheet.MOST_CELLS) {
            return BAD;
        }
        if (n < 0) {
            return REFUSED_CELL - Sheet.SIZE;
        }
        sheet.renew(lane, n);
        return 1;
    }

    /** A cell of a sheet becomes v. */
    public int lay(int k, int i, int v) {
        Sheet sheet = sheetAt(k);
        if (sheet == null) {
            return BAD;
        }
        int refused = sheet.put(i, v);
        return refused == 0 ? 1 : REFUSED_CELL - refused;
    }

    /** Turns are read of a sheet and done one behind another. */
    public int read(int k, int lane, int f, int n) {
        Sheet sheet = sheetAt(k);
        if (sheet == null || outside(lane, 0, 2) || outside(n, 0, 20)) {
            return BAD;
        }
        int whole = sheet.pairsWhole(lane, f, n);
        for (int i = 0; i < whole; i++) {
            if (isBadTurn(sheet.cellAt(f + 2 * i), sheet.cellAt(f + 2 * i + 1))) {
                return REFUSED_TURN - i;
            }
        }
        for (int i = 0; i < whole; i++) {
            turnChurn(sheet.cellAt(f + 2 * i), sheet.cellAt(f + 2 * i + 1));
        }
        tornFault = whole == n ? 0 : sheet.faultAs(lane);
        return whole;
    }

    /** The fault of the latest read() that was not refused. */
    public int torn() {
        return tornFault;
    }

    /** How many there are of what is asked. */
    public int count(int what) {
        switch (what) {
            case 0:
                return told.cows;
            case 1:
                return seen;
            case 2:
                return imagesThere();
            case 3:
                return reading.tape.length;
            case 4:
                return cellsOf(sheetAt(0));
            default:
                return BAD;
        }
    }

    // ---- what the calls share

    private static boolean outside(int v, int least, int most) {
        return v < least || v > most;
    }

    private static boolean isBadTurn(int n, int pace) {
        return outside(n, 1, MOST_TURNS) || outside(pace, 1, MOST_PACE);
    }

    private static boolean isBadWash(int m, int w) {
        return outside(m, 1, 99) || outside(w, 0, 99);
    }

    private static boolean isBadShare(int a, int b) {
        return outside(a, 0, 99) || outside(b, 1, 99);
    }

    private static boolean isBadWater(int v, int p) {
        return outside(v, 0, 9999999) || outside(p, 0, MOST_PASSES);
    }

    private static boolean isBadRod(int a, int b, int c) {
        return outside(a, 0, 9) || outside(b, 0, 9) || outside(c, 0, 9) || a + b + c == 0;
    }

    private boolean isBadRun(int cows, int warm, int pace) {
        return !told.hasCows(cows) || outside(warm, 0, MOST_WARMTH) || outside(pace, 1, MOST_PACE);
    }

    private int turnChurn(int n, int pace) {
        int falling = 0;
        for (int i = 0; i < n; i++) {
            if (churn.turnOnce(told, pace)) {
                falling++;
            }
        }
        return falling;
    }

    /** Turns the trial till it has come: how many turns, or NONE within so many. */
    private int turnTrialTillCome(int pace, int most) {
        for (int turns = 1; turns <= most; turns++) {
            boolean falls = trial.turnOnce(told, pace);
            if (trial.hasCome()) {
                return turns;
            }
            // As long as it is only turned, a swollen churn stays swollen, and soft drops stay soft
            // because it grows no colder: then it never comes.
            if (!falls || trial.hardness(told) == 0) {
                return NONE;
            }
        }
        return NONE;
    }

    private void findBest(int cows) {
        best.there = false;
        for (int warm = 0; warm <= MOST_WARMTH; warm += WARMTH_STEP) {
            for (int pace = 1; pace <= MOST_PACE; pace++) {
                trial.fillWith(told, cows, warm);
                int turns = turnTrialTillCome(pace, MOST_TURNS);
                if (turns != NONE && told.isGood(trial.hardness(told))) {
                    best.offer(warm, pace, turns, trial.left(told));
                }
            }
        }
    }

    private boolean isAsSeen(int warm, int pace) {
        for (int i = 0; i < seen && i < seenCows.length && i < seenTurns.length; i++) {
            boolean came = seenTurns[i] > 0;
            int most = came ? seenTurns[i] : MOST_TURNS;
            trial.fillWith(told, seenCows[i], warm);
            int turns = turnTrialTillCome(pace, most);
            if (turns != (came ? seenTurns[i] : NONE)) {
                return false;
            }
        }
        return true;
    }

    private void tryDeed(int deed) {
        trial.becomeLike(churn);
        if (deed == 1) {
            trial.halve();
        } else if (deed == 2) {
            trial.warmth = Math.min(MOST_WARMTH, trial.warmth + WARMTH_STEP);
        } else if (deed == 3) {
            trial.warmth = Math.max(0, trial.warmth - WARMTH_STEP);
        }
    }

    private void workWater(int v, int passes) {
        int figures = v;
        for (int k = 0; k < water.length; k++) {
            water[k] = figures % 10;
            figures /= 10;
        }
        for (int pass = 0; pass < passes; pass++) {
            // Upwards, so that what comes down into a class comes no further in the same pass.
            for (int k = 1; k < water.length; k++) {
                water[k - 1] += 2 * water[k];
                water[k] = 0;
            }
        }
    }

    private static int chancesAbove(int r, int a, int b, int c) {
        return (r + 1 > LAW ? a : 0) + (r > LAW ? b : 0) + (r - 1 > LAW ? c : 0);
    }

    private Image imageAt(int k) {
        return k >= 0 && k < images.length ? images[k] : null;
    }

    private Sheet sheetAt(int k) {
        return k >= 0 && k < sheets.length ? sheets[k] : null;
    }

    private static int cellsOf(Sheet sheet) {
        return sheet != null && sheet.isThere() ? sheet.size : NONE;
    }

    private int imagesThere() {
        int there = 0;
        for (Image image : images) {
            if (image.there) {
                there++;
            }
        }
        return there;
    }

    private static long power(long v, int n) {
        long product = 1;
        for (int i = 0; i < n; i++) {
            product *= v;
        }
        return product;
    }

    /** The numerator or the denominator of a fraction in lowest terms. */
    private static long lowest(long numerator, long denominator, int what) {
        long a = denominator;
        long b = numerator;
        // Euclid's steps for longs stay far below a hundred.
        for (int i = 0; i < 1000 && b != 0; i++) {
            long rest = a % b;
            a = b;
            b = rest;
        }
        long part = what == 0 ? numerator : denominator;
        return a > 0 ? part / a : part;
    }

    /** What a text tells: rules, drops of a litre, cows. */
    private static final class Told {
        static final int CHURN = 0, BASE = 1, SLOPE = 2, BEAT = 3, SWELL = 4, GRAIN = 5, HEAT = 6;
        static final int LOW = 7, HIGH = 8;
        /** All numbers that a text tells, in a row: a cow's two, the drops of a litre, the rules. */
        static final int COW_LITRES = 0, COW_HARD = 1, FIRST_DROP = 2, FIRST_RULE = 6;
        private static final int[] FIRST_RULES = {100, 130, 10, 10, 20, 4, 10, 20, 80};
        private static final int[] FIRST_DROPS = {64, 16, 4, 0};

        final int[] rules = FIRST_RULES.clone();
        final int[] litreDrops = FIRST_DROPS.clone();
        final int[] litres = new int[8];
        final int[] hards = new int[8];
        int cows;

        void becomeFirst() {
            System.arraycopy(FIRST_RULES, 0, rules, 0, rules.length);
            System.arraycopy(FIRST_DROPS, 0, litreDrops, 0, litreDrops.length);
            cows = 0;
        }

        void becomeLike(Told other) {
            System.arraycopy(other.rules, 0, rules, 0, rules.length);
            System.arraycopy(other.litreDrops, 0, litreDrops, 0, litreDrops.length);
            System.arraycopy(other.litres, 0, litres, 0, litres.length);
            System.arraycopy(other.hards, 0, hards, 0, hards.length);
            cows = other.cows;
        }

        boolean hasAllCows() {
            return cows >= litres.length || cows >= hards.length;
        }

        /** One of all the numbers that a text tells; those of a cow are the coming one's. */
        void put(int which, int v) {
            if (which >= FIRST_RULE && which - FIRST_RULE < rules.length) {
                rules[which - FIRST_RULE] = v;
            } else if (which >= FIRST_DROP && which - FIRST_DROP < litreDrops.length) {
                litreDrops[which - FIRST_DROP] = v;
            } else if (which == COW_HARD && cows < hards.length) {
                hards[cows] = v;
            } else if (which == COW_LITRES && cows < litres.length) {
                litres[cows] = v;
            }
        }

        int base() {
            return rules[BASE];
        }

        boolean isGood(int hardness) {
            return hardness >= rules[LOW] && hardness <= rules[HIGH];
        }

        boolean hasCow(int c) {
            return c >= 0 && c < cows && c < litres.length && c < hards.length;
        }

        int allCows() {
            return (1 << cows) - 1;
        }

        boolean hasCows(int bits) {
            return bits >= 0 && bits <= allCows();
        }

        int litresOf(int bits) {
            int sum = 0;
            for (int c = 0; c < litres.length; c++) {
                if ((bits >> c & 1) != 0) {
                    sum += litres[c];
                }
            }
            return sum;
        }

        int hardOf(int bits) {
            int sum = 0;
            for (int c = 0; c < litres.length && c < hards.length; c++) {
                if ((bits >> c & 1) != 0) {
                    sum += litres[c] * hards[c];
                }
            }
            int all = litresOf(bits);
            return all > 0 ? sum / all : 0;
        }
    }

    /** What is in the churn, and how it is turned. */
    private static final class Churn {
        static final int CLASSES = 7;
        private static final int MOST_AIR = 1000;
        private static final int MOST_RATE = 100;

        final int[] drops = new int[CLASSES];
        int litres;
        int warmth;
        int hard;
        int air;
        int turns;
        /** The turn in which it has come, or NONE. */
        int come = NONE;

        void fillWith(Told told, int bits, int warm) {
            litres = told.litresOf(bits);
            hard = told.hardOf(bits);
            warmth = warm;
            air = 0;
            turns = 0;
            come = NONE;
            for (int k = 0; k < drops.length; k++) {
                drops[k] = k < told.litreDrops.length ? litres * told.litreDrops[k] : 0;
            }
        }

        void becomeLike(Churn other) {
            litres = other.litres;
            warmth = other.warmth;
            hard = other.hard;
            air = other.air;
            turns = other.turns;
            come = other.come;
            System.arraycopy(other.drops, 0, drops, 0, drops.length);
        }

        void halve() {
            litres /= 2;
            air /= 2;
            for (int k = 0; k < drops.length; k++) {
                drops[k] /= 2;
            }
        }

        boolean hasCome() {
            return come != NONE;
        }

        boolean isSwollen(Told told) {
            int swelling = air * told.rules[Told.SWELL] / 100;
            return !hasCome() && litres + swelling >= told.rules[Told.CHURN];
        }

        int hardness(Told told) {
            int soft = Math.floorDiv((warmth - told.base()) * told.rules[Told.SLOPE], 100);
            return Math.max(0, Math.min(100, hard - soft));
        }

        /** One turn: whether it was not swollen in it. */
        boolean turnOnce(Told told, int pace) {
            boolean falls = !isSwollen(told);
            if (falls) {
                beatIn(told, pace);
                joinDrops(rate(told, pace));
                breakIfDue(told);
            }
            turns++;
            int heat = told.rules[Told.HEAT];
            if (heat > 0 && turns % heat == 0) {
                warmth = Math.min(MOST_WARMTH, warmth + pace);
            }
            return falls;
        }

        private void beatIn(Told told, int pace) {
            if (!hasCome()) {
                air = Math.min(MOST_AIR, air + told.rules[Told.BEAT] * pace);
            }
        }

        private int rate(Told told, int pace) {
            if (hasCome()) {
                return Math.min(MOST_RATE, 20 * pace);
            }
            int hardness = hardness(told);
            return Math.min(MOST_RATE, hardness * (100 - hardness) * air / (25 * 1000));
        }

        private void joinDrops(int rate) {
            // Downwards, so that what joins into a class does not join again in the same turn.
            for (int k = drops.length - 2; k >= 0; k--) {
                int joined = rate * drops[k] / 200;
                drops[k] -= 2 * joined;
                drops[k + 1] += joined;
            }
        }

        private void breakIfDue(Told told) {
            if (hasCome()) {
                return;
            }
            int fat = fatFrom(0);
            if (fat > 0 && 2 * fatFrom(told.rules[Told.GRAIN]) >= fat) {
                come = turns;
                air = 0;
            }
        }

        /** Fat in the classes from k on. */
        int fatFrom(int k) {
            int fat = 0;
            for (int i = Math.max(0, k); i < drops.length; i++) {
                fat += drops[i] << i;
            }
            return fat;
        }

        int left(Told told) {
            return fatFrom(0) - fatFrom(told.rules[Told.GRAIN]);
        }

        boolean isMostlyGreatest() {
            return 10 * fatFrom(CLASSES - 1) >= 9 * fatFrom(0);
        }

        int dropsOf(int k) {
            return k >= 0 && k < drops.length ? drops[k] : BAD;
        }

        int tell(Told told, int what) {
            switch (what) {
                case 0:
                    return litres;
                case 1:
                    return warmth;
                case 2:
                    return hardness(told);
                case 3:
                    return air;
                case 4:
                    return turns;
                case 5:
                    return come;
                case 6:
                    return left(told);
                case 7:
                    return fatFrom(0);
                case 8:
                    return isSwollen(told) ? 1 : 0;
                case 9:
                    return outcome(told);
                default:
                    return BAD;
            }
        }

        private int outcome(Told told) {
            if (isSwollen(told)) {
                return 2;
            }
            if (!hasCome()) {
                return 0;
            }
            if (hardness(told) < told.rules[Told.LOW]) {
                return 3;
            }
            if (isMostlyGreatest()) {
                return 5;
            }
            return 10 * left(told) > fatFrom(0) ? 4 : 1;
        }
    }

    /** A churn as it was kept. */
    private static final class Image {
        final Churn churn = new Churn();
        boolean there;
    }

    /** The best plan of those that were offered in the order of warmth and pace. */
    private static final class Best {
        boolean there;
        private int warmth;
        private int pace;
        private int turns;
        private int left;

        void offer(int newWarmth, int newPace, int newTurns, int newLeft) {
            if (there && (newLeft > left || newLeft == left && newTurns >= turns)) {
                return;
            }
            there = true;
            warmth = newWarmth;
            pace = newPace;
            turns = newTurns;
            left = newLeft;
        }

        int tell(int what) {
            switch (what) {
                case 0:
                    return warmth;
                case 1:
                    return pace;
                case 2:
                    return turns;
                default:
                    return left;
            }
        }
    }

    /** The bytes of a text, and its tokens one after another. */
    private static final class Tape {
        static final int MOST = 320;
        static final int END = 0, BLANK = 1, NAME = 2, NUMBER = 3, SIGN = 4, WRONG = 5;
        private static final int MOST_FIGURES = 3;

        private final byte[] bytes = new byte[MOST];
        int length;
        /** The token that was read last: its kind, its place, the place behind it. */
        int kind;
        int place;
        private int behind;
        int number;

        boolean put(long v) {
            if (length > MOST - 8) {
                return false;
            }
            for (int shift = 56; shift >= 0 && length < bytes.length; shift -= 8) {
                bytes[length] = (byte) (v >> shift);
                length++;
            }
            return true;
        }

        /** The byte at a place; 0, which is in no token, where there is none. */
        private int byteAt(int where) {
            return where >= 0 && where < length && where < bytes.length ? bytes[where] : 0;
        }

        void rewind() {
            behind = 0;
        }

        void advance() {
            place = behind;
            for (int i = 0; i < MOST && kindAt(place) == BLANK; i++) {
                place++;
            }
            kind = kindAt(place);
            behind = place + 1;
            if (kind == NAME || kind == NUMBER) {
                for (int i = 0; i < MOST && kindAt(behind) == kind; i++) {
                    behind++;
                }
            }
            if (kind == NUMBER) {
                takeNumber();
            }
        }

        private void takeNumber() {
            if (behind - place > MOST_FIGURES) {
                kind = WRONG;
                return;
            }
            number = 0;
            for (int i = place; i < behind; i++) {
                number = 10 * number + byteAt(i) - '0';
            }
        }

        private int kindAt(int where) {
            if (where >= length) {
                return END;
            }
            int sign = byteAt(where);
            if (sign == ' ') {
                return BLANK;
            }
            if (sign == ';') {
                return SIGN;
            }
            if (sign >= 'a' && sign <= 'z') {
                return NAME;
            }
            return sign >= '0' && sign <= '9' ? NUMBER : WRONG;
        }

        boolean spells(String word) {
            if (kind != NAME || behind - place != word.length()) {
                return false;
            }
            for (int i = 0; i < word.length(); i++) {
                if (byteAt(place + i) != word.charAt(i)) {
                    return false;
                }
            }
            return true;
        }
    }

    /** Reads a text into a draft, token by token, up to the first fault. */
    private static final class Reading {
        private static final int NO_TOKEN = 1, MISPLACED = 2, OUT_OF_BOUNDS = 3;
        private static final int SECOND_TIME = 4, NINTH_COW = 5;
        private static final int NO_LINE = -1, COW = 0, DROPS = 1, CHURN = 2, SOFT = 3, BEAT = 4;
        private static final int GRAIN = 5, HEAT = 6, GOOD = 7;
        // By line: how many numbers it has, and which of all that a text tells is its first one.
        private static final int[] NUMBERS = {2, 4, 1, 2, 2, 1, 1, 2};
        private static final int[] FIRST_TOLD = {0, 2, 6, 7, 9, 11, 12, 13};
        private static final int[] LEAST = {1, 0, 0, 0, 0, 0, 10, 0, 1, 0, 0, 3, 1, 0, 0};
        private static final int[] MOST =
                {50, 100, 99, 99, 99, 99, 400, 400, 99, 50, 99, 6, 99, 100, 100};

        final Tape tape = new Tape();
        final Told draft = new Told();
        private int line;
        private int numbersRead;
        private int linesRead;
        private int linesMet;
        int fault;
        int faultPlace;

        /** How many lines were read; the fault is 0 when these are all. */
        int readAll() {
            draft.becomeFirst();
            tape.rewind();
            line = NO_LINE;
            linesRead = 0;
            linesMet = 0;
            fault = 0;
            // No text has more tokens than bytes; the end is one more.
            for (int i = 0; i <= Tape.MOST && fault == 0; i++) {
                tape.advance();
                if (tape.kind == Tape.END && line == NO_LINE) {
                    return linesRead;
                }
                takeToken();
            }
            return linesRead;
        }

        private void takeToken() {
            if (tape.kind == Tape.WRONG) {
                refuse(NO_TOKEN);
            } else if (line < 0 || line >= NUMBERS.length) {
                beginLine();
            } else if (numbersRead < NUMBERS[line]) {
                takeNumber();
            } else {
                endLine();
            }
        }

        private void beginLine() {
            int named = lineNamed();
            if (named == NO_LINE) {
                refuse(MISPLACED);
            } else if (named == COW && draft.hasAllCows()) {
                refuse(NINTH_COW);
            } else if (named != COW && (linesMet >> named & 1) != 0) {
                refuse(SECOND_TIME);
            } else {
                linesMet |= 1 << named;
                line = named;
                numbersRead = 0;
            }
        }

        private int lineNamed() {
            if (tape.spells("cow")) {
                return COW;
            }
            if (tape.spells("drops")) {
                return DROPS;
            }
            if (tape.spells("churn")) {
                return CHURN;
            }
            if (tape.spells("soft")) {
                return SOFT;
            }
            if (tape.spells("beat")) {
                return BEAT;
            }
            if (tape.spells("grain")) {
                return GRAIN;
            }
            if (tape.spells("heat")) {
                return HEAT;
            }
            return tape.spells("good") ? GOOD : NO_LINE;
        }

        private void takeNumber() {
            int which = line < FIRST_TOLD.length ? FIRST_TOLD[line] + numbersRead : LEAST.length;
            if (tape.kind != Tape.NUMBER || which >= LEAST.length || which >= MOST.length) {
                refuse(MISPLACED);
                return;
            }
            // High may be no less than low, which is told just ahead of it.
            int least = which == Told.FIRST_RULE + Told.HIGH ? draft.rules[Told.LOW] : LEAST[which];
            if (outside(tape.number, least, MOST[which])) {
                refuse(OUT_OF_BOUNDS);
                return;
            }
            draft.put(which, tape.number);
            numbersRead++;
        }

        private void endLine() {
            if (tape.kind != Tape.SIGN) {
                refuse(MISPLACED);
                return;
            }
            if (line == COW) {
                draft.cows++;
            }
            linesRead++;
            line = NO_LINE;
        }

        private void refuse(int what) {
            fault = what;
            faultPlace = tape.place;
        }
    }

    /** A row of cells of a lane, or nothing. */
    private static final class Sheet {
        static final int MOST_CELLS = 40;
        static final int NULL = 1, INDEX = 2, CAST = 3, SIZE = 4;
        private static final int NOTHING = -1;

        private final int[] cells = new int[MOST_CELLS];
        private int lane;
        int size = NOTHING;

        boolean isThere() {
            return size != NOTHING;
        }

        void renew(int newLane, int newSize) {
            lane = newLane;
            size = newSize;
            for (int i = 0; i < cells.length; i++) {
                cells[i] = 0;
            }
        }

        /** The fault, or 0. */
        int put(int i, int v) {
            if (!isThere()) {
                return NULL;
            }
            if (i < 0 || i >= size || i >= cells.length) {
                return INDEX;
            }
            cells[i] = lane == 0 ? (byte) v : lane == 1 ? (short) v : v;
            return 0;
        }

        int cellAt(int i) {
            return i >= 0 && i < size && i < cells.length ? cells[i] : 0;
        }

        /** How many of n pairs of cells from f on can be read as of a lane. */
        int pairsWhole(int asLane, int f, int n) {
            if (!isThere() || lane != asLane || f < 0 || f >= size) {
                return 0;
            }
            return Math.min(n, (size - f) / 2);
        }

        /** What the machine refuses when pairs are wanted that are not whole. */
        int faultAs(int asLane) {
            if (!isThere()) {
                return NULL;
            }
            return lane == asLane ? INDEX : CAST;
        }
    }
}
