import java.lang.reflect.Constructor;
import java.lang.reflect.Field;
import java.lang.reflect.Method;
import java.lang.reflect.Modifier;
import java.util.Arrays;
import java.util.List;
import java.util.Set;
import java.util.TreeSet;
import java.util.stream.Collectors;

/** The public face, its constants, and that there is nothing else that can be seen. */
public final class FaceTest {
    private static final List<String> FACE = List.of("int feed(long)", "int end(int)", "int dairy()",
            "int fault()", "int rule(int)", "int cow(int,int)", "int feeds(int,int)", "int fill(int,int)",
            "int turn(int,int)", "int warm(int)", "int half()", "int now(int)", "int drops(int)",
            "int run(int,int,int,int,int)", "int comes(int,int,int)", "int plan(int,int)",
            "int without(int)", "int saw(int,int)", "int forget()", "int why(int)", "int next(int,int)",
            "int over(int)", "long wash(int,int,int,int)", "int washes(int,int,int,int)",
            "int split(int,int)", "int worked(int,int,int)", "int keeps(int,int)",
            "int rod(int,int,int,int,int)", "int near(int,int,int,int,int)",
            "long witch(int,int,int,int,int)", "int keep(int)", "int back(int)", "int sheet(int,int,int)",
            "int lay(int,int,int)", "int read(int,int,int,int)", "int torn()", "int count(int)");

    private FaceTest() {
    }

    public static void main(String[] args) {
        Set<String> seen = new TreeSet<>();
        for (Method m : ButterChurn.class.getDeclaredMethods()) {
            if (!Modifier.isPrivate(m.getModifiers()) && !m.isSynthetic()) {
                seen.add((Modifier.isPublic(m.getModifiers()) ? "" : "hidden ") + signature(m));
            }
        }
        same("methods", seen, new TreeSet<>(FACE));
        Set<String> fields = new TreeSet<>();
        for (Field f : ButterChurn.class.getDeclaredFields()) {
            if (!Modifier.isPrivate(f.getModifiers()) && !f.isSynthetic()) {
                fields.add(Modifier.toString(f.getModifiers()) + " " + f.getType() + " " + f.getName());
            }
        }
        same("fields", fields, new TreeSet<>(List.of("public static final int BAD",
                "public static final int FULL", "public static final int NONE",
                "public static final int STATE")));
        Constructor<?>[] made = ButterChurn.class.getDeclaredConstructors();
        Due.is("constructors", made.length, 1);
        Due.is("the constructor's parameters", made[0].getParameterCount(), 0);
        Due.is("whether it is public", made[0].getModifiers() & Modifier.PUBLIC, Modifier.PUBLIC);
        Due.is("whether the class is public and final", ButterChurn.class.getModifiers(),
                Modifier.PUBLIC | Modifier.FINAL);
        Due.is("BAD", ButterChurn.BAD, -1);
        Due.is("STATE", ButterChurn.STATE, -2);
        Due.is("FULL", ButterChurn.FULL, -3);
        Due.is("NONE", ButterChurn.NONE, -4);
        Due.end("FaceTest");
    }

    private static String signature(Method m) {
        return m.getReturnType() + " " + m.getName() + Arrays.stream(m.getParameterTypes())
                .map(Class::getName).collect(Collectors.joining(",", "(", ")"));
    }

    private static void same(String what, Set<String> seen, Set<String> due) {
        Due.is(what + " " + seen + " against " + due, seen.equals(due) ? 1 : 0, 1);
    }
}
