import java.lang.reflect.InvocationTargetException;
import java.lang.reflect.Method;
import java.lang.reflect.Modifier;
import java.nio.charset.StandardCharsets;
import java.util.ArrayDeque;
import java.util.ArrayList;
import java.util.Arrays;
import java.util.Comparator;
import java.util.Deque;
import java.util.List;
import java.util.Random;

/** Runs of chosen calls: the object answers as the model does, and never throws. */
public final class ModelTest {
    private static final int OBJECTS = 500;
    private static final int CALLS = 512;
    private static final int[] EDGES = {Integer.MIN_VALUE, -21, -2, -1, 0, 1, 2, 9, 10, 16, 40, 41, 99,
        100, 255, 256, 400, 401, 9999999, Integer.MAX_VALUE};

    private final Random chance;
    private final ButterChurn x = new ButterChurn();
    private final Model model = new Model();
    private final Deque<Long> text = new ArrayDeque<>();
    private final boolean[] outcomes;
    private final Deque<long[]> sheetCalls = new ArrayDeque<>();
    private boolean laid;
    private int cut;

    private ModelTest(int seed, boolean[] outcomes) {
        chance = new Random(seed);
        this.outcomes = outcomes;
    }

    public static void main(String[] args) throws ReflectiveOperationException {
        List<Method> methods = new ArrayList<>();
        for (Method m : ButterChurn.class.getDeclaredMethods()) {
            if (Modifier.isPublic(m.getModifiers())) {
                methods.add(m);
            }
        }
        methods.sort(Comparator.comparing(Method::getName));
        boolean[] outcomes = new boolean[6];
        for (int seed = 0; seed < OBJECTS; seed++) {
            new ModelTest(seed, outcomes).run(seed, methods);
        }
        for (int k = 0; k < outcomes.length; k++) {
            Due.is("whether the runs came by outcome " + k, outcomes[k] ? 1 : 0, 1);
        }
        Due.end("ModelTest");
    }

    private void run(int seed, List<Method> methods) throws ReflectiveOperationException {
        for (int i = 0; i < CALLS; i++) {
            Method m = choose(methods);
            long[] arg = arguments(m);
            String call = "object " + seed + ", call " + i + ", " + m.getName() + Arrays.toString(arg);
            try {
                Due.is(call, answer(m, arg), model.call(m.getName(), arg));
            } catch (InvocationTargetException thrown) {
                Due.is(call + " threw " + thrown.getCause() + ", which", 1, 0);
            }
            outcomes[model.outcome()] = true;
        }
    }

    private long answer(Method m, long[] arg) throws ReflectiveOperationException {
        Object[] given = new Object[arg.length];
        for (int i = 0; i < arg.length; i++) {
            given[i] = m.getParameterTypes()[i] == long.class ? (Object) arg[i] : (Object) (int) arg[i];
        }
        return ((Number) m.invoke(x, given)).longValue();
    }

    /** Mostly a text is fed, cut and taken in its order; the other calls come at random. */
    private Method choose(List<Method> methods) {
        if (!text.isEmpty() && chance.nextInt(8) > 0) {
            return named(methods, "feed");
        }
        if (text.isEmpty() && cut > 0) {
            return named(methods, "end");
        }
        if (cut < 0) {
            return named(methods, "dairy");
        }
        if (text.isEmpty() && chance.nextInt(40) == 0) {
            layText();
        }
        if (sheetCalls.isEmpty() && chance.nextInt(60) == 0) {
            laySheet();
        }
        if (!sheetCalls.isEmpty() && chance.nextInt(8) > 0) {
            boolean read = sheetCalls.peek().length == 4;
            return named(methods, read ? "read" : laid ? "lay" : "sheet");
        }
        Method m = methods.get(chance.nextInt(methods.size()));
        boolean dear = m.getName().equals("why") || m.getName().equals("plan");
        boolean rare = m.getName().equals("feed") || m.getName().equals("dairy");
        return dear && chance.nextInt(4) > 0 || rare && chance.nextInt(20) > 0
                ? named(methods, chance.nextBoolean() ? "turn" : "lay") : m;
    }

    private static Method named(List<Method> methods, String name) {
        for (Method m : methods) {
            if (m.getName().equals(name)) {
                return m;
            }
        }
        throw new IllegalArgumentException(name);
    }

    private void layText() {
        byte[] bytes = text().getBytes(StandardCharsets.ISO_8859_1);
        if (chance.nextInt(3) == 0) {
            for (int i = chance.nextInt(3); i >= 0; i--) {
                bytes[chance.nextInt(bytes.length)] = (byte) " ;09azc\u00e9".charAt(chance.nextInt(8));
            }
        }
        for (int at = 0; at < bytes.length; at += 8) {
            text.add(Due.eight(bytes, at));
        }
        cut = bytes.length;
    }

    /** A sheet is made, most of its cells are laid with good turns, and some are read. */
    private void laySheet() {
        laid = false;
        int k = chance.nextInt(4);
        int lane = chance.nextInt(3);
        int size = 1 + chance.nextInt(9);
        sheetCalls.add(new long[] {k, lane, size});
        for (int i = 0; i < size; i++) {
            sheetCalls.add(new long[] {k, i, chance.nextInt(40) == 0 ? 0 : 1 + chance.nextInt(9)});
        }
        for (int i = 0; i < 2; i++) {
            int as = chance.nextInt(6) == 0 ? chance.nextInt(3) : lane;
            sheetCalls.add(new long[] {k, as, chance.nextInt(3), chance.nextInt(6)});
        }
    }

    private boolean isNextSheetCall(String name) {
        if (sheetCalls.isEmpty()) {
            return false;
        }
        boolean read = sheetCalls.peek().length == 4;
        return name.equals(read ? "read" : laid ? "lay" : "sheet");
    }

    private String text() {
        StringBuilder told = new StringBuilder();
        boolean tame = chance.nextInt(3) > 0;
        for (int i = tame ? 1 + chance.nextInt(4) : chance.nextInt(10); i > 0; i--) {
            told.append(tame ? line("cow", 1, 25, 20, 90) : line("cow", 1, 50, 0, 100));
        }
        String[] others = {
            line("drops", 0, 99, 0, 99, 0, 99, 0, chance.nextInt(100)), line("churn", tame ? 100 : 10, 400),
            line("soft", 0, 400, 1, tame ? 30 : 99), line("beat", tame ? 5 : 0, 50, 0, tame ? 20 : 99),
            line("grain", 3, 6), line("heat", 1, 99), line("good", 0, 50, 50, 100)};
        for (String other : others) {
            if (chance.nextInt(3) == 0) {
                told.insert(0, other);
            }
        }
        return told.append(' ').substring(0, Math.min(told.length(), 312));
    }

    private String line(String name, int... bounds) {
        StringBuilder line = new StringBuilder(name);
        for (int i = 0; i < bounds.length; i += 2) {
            int wide = chance.nextInt(30) == 0 ? 2 : 0;
            line.append(" ").append(bounds[i] + chance.nextInt(bounds[i + 1] - bounds[i] + 1 + wide));
        }
        return line.append(chance.nextBoolean() ? " ; " : ";").toString();
    }

    private long[] arguments(Method m) {
        long[] arg = new long[m.getParameterCount()];
        int[] most = bounds(m.getName());
        for (int i = 0; i < arg.length; i++) {
            int edge = EDGES[chance.nextInt(EDGES.length)];
            arg[i] = chance.nextInt(25) == 0 ? edge : least(m.getName(), i) + chance.nextInt(most[i] + 1);
        }
        if (m.getName().equals("feed")) {
            arg[0] = text.isEmpty() ? chance.nextLong() : text.remove();
        } else if (m.getName().equals("end") && cut > 0) {
            long fed = model.call("count", new long[] {3});
            // What stood on the tape ahead of the text makes it another text, for both of them.
            arg[0] = Math.min(fed, cut);
            cut = -1;
        } else if (m.getName().equals("dairy")) {
            cut = 0;
        } else if (m.getName().equals("saw") && chance.nextInt(4) > 0) {
            long warm = 20 * chance.nextInt(21);
            arg[1] = Math.max(0, model.call("comes", new long[] {arg[0], warm, 1 + chance.nextInt(9)}));
        } else if (isNextSheetCall(m.getName())) {
            laid = true;
            return sheetCalls.remove();
        }
        return arg;
    }

    private static int least(String name, int i) {
        boolean pace = name.equals("comes") && i == 2 || name.equals("over");
        return name.equals("turn") || name.equals("lay") && i == 2 || pace ? 1 : 0;
    }

    /** About how far the arguments of a call go. */
    private int[] bounds(String name) {
        int all = (1 << (int) model.call("count", new long[] {0})) - 1;
        return switch (name) {
            case "feed" -> new int[] {0};
            case "end" -> new int[] {330};
            case "rule" -> new int[] {14};
            case "cow" -> new int[] {8, 1};
            case "feeds" -> new int[] {8, 100};
            case "fill" -> new int[] {all, 400};
            case "turn" -> new int[] {chance.nextInt(4) == 0 ? 400 : 12, 8};
            case "warm" -> new int[] {400};
            case "now" -> new int[] {9};
            case "drops" -> new int[] {6};
            case "run" -> new int[] {all, 400, 9, chance.nextBoolean() ? 30 : 400, 16};
            case "comes" -> new int[] {all, 400, 8};
            case "plan" -> new int[] {all, 3};
            case "without", "count" -> new int[] {5};
            case "saw" -> new int[] {all, chance.nextBoolean() ? 0 : 30};
            case "why" -> new int[] {2};
            case "next" -> new int[] {9, 1};
            case "over" -> new int[] {8};
            case "wash" -> new int[] {99, 99, 5, 1};
            case "washes" -> new int[] {99, 99, 99, 99};
            case "split" -> new int[] {99, 99};
            case "worked" -> new int[] {9999999, 6, 6};
            case "keeps" -> new int[] {chance.nextBoolean() ? 9999999 : 99, 6};
            case "rod" -> new int[] {30, 9, 9, 9, 1};
            case "near" -> new int[] {9, 9, 9, 99, 99};
            case "witch" -> new int[] {12, 5, 5, 9, 1};
            case "keep", "back" -> new int[] {1};
            case "sheet" -> new int[] {3, 2, chance.nextInt(3) == 0 ? 41 : 8};
            case "lay" -> new int[] {3, 8, chance.nextInt(5) == 0 ? 70000 : 8};
            case "read" -> new int[] {3, 2, 6, chance.nextBoolean() ? 3 : 21};
            default -> new int[0];
        };
    }
}
