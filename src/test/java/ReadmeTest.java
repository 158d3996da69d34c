import java.io.IOException;
import java.lang.reflect.Method;
import java.lang.reflect.Modifier;
import java.net.URL;
import java.net.URLClassLoader;
import java.nio.file.Files;
import java.nio.file.Path;
import java.util.ArrayList;
import java.util.List;
import java.util.function.Supplier;
import java.util.regex.Matcher;
import java.util.regex.Pattern;
import javax.tools.ToolProvider;

/** That README.md names each call, and that the calls of its example answer what stands behind them. */
public final class ReadmeTest {
    private static final Path README = Path.of("README.md");
    private static final String EXAMPLE = "ReadmeExample";
    private static final Pattern BLOCK = Pattern.compile("```java\n(.*?)```", Pattern.DOTALL);
    private static final Pattern CALL = Pattern.compile("(x\\.\\w+\\(.*\\)); +// (-?\\d+)\\b.*");

    private final List<String> calls = new ArrayList<>();
    private final List<Long> due = new ArrayList<>();

    private ReadmeTest() {
    }

    public static void main(String[] args) throws IOException, ReflectiveOperationException {
        String readme = Files.readString(README);
        for (Method method : ButterChurn.class.getDeclaredMethods()) {
            if (Modifier.isPublic(method.getModifiers())) {
                is("README names " + method.getName(), readme.contains("`" + method.getName() + "`"));
            }
        }
        Matcher block = BLOCK.matcher(readme);
        is("README has an example", block.find());
        new ReadmeTest().check(block.group(1));
        Due.end("ReadmeTest");
    }

    private static void is(String what, boolean holds) {
        Due.is(what, holds ? 1 : 0, 1);
    }

    private void check(String example) throws IOException, ReflectiveOperationException {
        long[] told = run(source(example));
        is("the example has calls with answers", !calls.isEmpty());
        for (int i = 0; i < calls.size(); i++) {
            Due.is(calls.get(i), told[i], due.get(i));
        }
    }

    /** A class that does what the example does, and keeps the answers of calls that tell theirs. */
    private String source(String example) {
        StringBuilder body = new StringBuilder();
        for (String line : example.split("\n")) {
            Matcher call = CALL.matcher(line);
            is("a call tells its answer: " + line, call.matches() || !line.startsWith("x."));
            if (call.matches()) {
                body.append("told[").append(calls.size()).append("] = ").append(call.group(1)).append(";\n");
                calls.add(call.group(1));
                due.add(Long.valueOf(call.group(2)));
            } else {
                body.append(line).append('\n');
            }
        }
        return "public final class " + EXAMPLE + " implements java.util.function.Supplier<long[]> {\n"
                + "public long[] get() {\nlong[] told = new long[" + calls.size() + "];\n"
                + body + "return told;\n}\n}\n";
    }

    private static long[] run(String source) throws IOException, ReflectiveOperationException {
        Path folder = Files.createTempDirectory("readme");
        Path file = folder.resolve(EXAMPLE + ".java");
        Path made = folder.resolve(EXAMPLE + ".class");
        Files.writeString(file, source);
        int refused = ToolProvider.getSystemJavaCompiler().run(null, null, null, "-proc:none",
                "-classpath", System.getProperty("java.class.path"), "-d", folder.toString(), file.toString());
        Due.is("what javac says to the example", refused, 0);
        try (URLClassLoader loader = new URLClassLoader(new URL[] {folder.toUri().toURL()})) {
            Object example = loader.loadClass(EXAMPLE).getDeclaredConstructor().newInstance();
            return example instanceof Supplier<?> told && told.get() instanceof long[] all ? all : new long[0];
        } finally {
            Files.deleteIfExists(made);
            Files.deleteIfExists(file);
            Files.deleteIfExists(folder);
        }
    }
}
