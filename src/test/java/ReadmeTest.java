import java.io.ByteArrayOutputStream;
import java.io.IOException;
import java.io.PrintStream;
import java.lang.reflect.Method;
import java.lang.reflect.Modifier;
import java.net.URL;
import java.net.URLClassLoader;
import java.nio.charset.StandardCharsets;
import java.nio.file.Files;
import java.nio.file.Path;
import java.util.ArrayList;
import java.util.List;
import java.util.Set;
import java.util.TreeSet;
import java.util.regex.Matcher;
import java.util.regex.Pattern;
import javax.tools.JavaCompiler;
import javax.tools.ToolProvider;

/** README.md names each call as the class shows it, and its example prints what it says. Runs at the project's root. */
public final class ReadmeTest {
    private static final Due due = new Due();

    public static void main(String[] args) throws IOException, ReflectiveOperationException {
        String text = Files.readString(Path.of("README.md"));
        calls(text);
        example(text);
        tests(text);
        due.end();
    }

    /** A call's row: its head, what it does, and the exceptions, in the order in which they are thrown. */
    private static void calls(String text) {
        Set<String> told = new TreeSet<>();
        Matcher row = Pattern.compile("(?m)^\\| `(\\w+ \\w+)\\((.*?)\\)` \\| .+ \\|(.*)\\|$").matcher(text);
        while (row.find()) {
            String types = row.group(2).replaceAll("(\\w+) \\w+", "$1");
            told.add(row.group(1) + "(" + types + ")" + exceptionsIn(row.group(3)));
        }
        Set<String> shown = new TreeSet<>();
        for (Method method : ProofSheet.class.getDeclaredMethods()) {
            if (Modifier.isPublic(method.getModifiers())) {
                shown.add(headOf(method));
            }
        }
        if (!told.equals(shown)) {
            due.tell("README.md tells " + told + ", the class shows " + shown);
        }
    }

    private static List<String> exceptionsIn(String cell) {
        List<String> names = new ArrayList<>();
        Matcher name = Pattern.compile("\\w+Exception").matcher(cell);
        while (name.find()) {
            names.add(name.group());
        }
        return names;
    }

    private static String headOf(Method method) {
        List<String> types = new ArrayList<>();
        for (Class<?> type : method.getParameterTypes()) {
            types.add(type.getSimpleName());
        }
        List<String> exceptions = new ArrayList<>();
        for (Class<?> type : method.getExceptionTypes()) {
            exceptions.add(type.getSimpleName());
        }
        return method.getReturnType().getSimpleName() + " " + method.getName() + "(" + String.join(", ", types) + ")"
                + exceptions;
    }

    /** Compiles and runs the example; what a line prints stands behind it, ahead of a colon. */
    private static void example(String text) throws IOException, ReflectiveOperationException {
        Matcher block = Pattern.compile("(?s)```java\n(public final class Example .*?)```").matcher(text);
        if (!block.find()) {
            due.tell("README.md has no example");
            return;
        }
        List<String> want = new ArrayList<>();
        Matcher answer = Pattern.compile("println\\(.*// ([^:\n]+):").matcher(block.group(1));
        while (answer.find()) {
            want.add(answer.group(1));
        }
        List<String> got = printedBy(block.group(1));
        if (want.isEmpty() || !got.equals(want)) {
            due.tell("the example prints " + got + ", README.md tells " + want);
        }
    }

    private static List<String> printedBy(String program) throws IOException, ReflectiveOperationException {
        Path folder = Files.createTempDirectory("readme");
        Path source = Files.writeString(folder.resolve("Example.java"), program);
        Path compiled = folder.resolve("Example.class");
        PrintStream before = System.out;
        ByteArrayOutputStream printed = new ByteArrayOutputStream();
        try (URLClassLoader loader = new URLClassLoader(new URL[] {folder.toUri().toURL()})) {
            JavaCompiler compiler = ToolProvider.getSystemJavaCompiler();
            int failed = compiler.run(null, null, null, "-encoding", "UTF-8", "-cp",
                    System.getProperty("java.class.path"), "-d", folder.toString(), source.toString());
            if (failed != 0) {
                return List.of("nothing, it does not compile");
            }
            System.setOut(new PrintStream(printed, true, StandardCharsets.UTF_8));
            loader.loadClass("Example").getMethod("main", String[].class).invoke(null, (Object) new String[0]);
        } finally {
            System.setOut(before);
            Files.deleteIfExists(compiled);
            Files.delete(source);
            Files.delete(folder);
        }
        return printed.toString(StandardCharsets.UTF_8).lines().toList();
    }

    /** The table of the tests has a row for each test, and no other. */
    private static void tests(String text) throws IOException {
        Set<String> told = new TreeSet<>();
        Matcher row = Pattern.compile("(?m)^\\| (\\w+Test) \\|").matcher(text);
        while (row.find()) {
            told.add(row.group(1));
        }
        Set<String> there = new TreeSet<>();
        try (var files = Files.list(Path.of("src/test/java"))) {
            files.map(file -> file.getFileName().toString()).filter(name -> name.endsWith("Test.java"))
                    .forEach(name -> there.add(name.replace(".java", "")));
        }
        if (!told.equals(there)) {
            due.tell("README.md tells the tests " + told + ", there are " + there);
        }
    }
}
