import java.io.IOException;
import java.lang.reflect.Method;
import java.lang.reflect.Modifier;
import java.net.URL;
import java.net.URLClassLoader;
import java.nio.charset.StandardCharsets;
import java.nio.file.Files;
import java.nio.file.Path;
import java.util.function.Supplier;
import java.util.regex.Matcher;
import java.util.regex.Pattern;
import javax.tools.ToolProvider;

/**
 * README.md's example, compiled and run as it stands there: behind each call is the answer that is due. Run from the
 * project's folder.
 */
public final class ReadmeTest {
    private static final Due D = new Due();
    private static final Pattern CALL = Pattern.compile("(?:int (\\w+) = )?(hall\\.\\w+\\(.*\\)); *// ([-\\w.]+): .*");

    public static void main(String[] args) throws IOException, ReflectiveOperationException {
        String readme = Files.readString(Path.of("README.md"), StandardCharsets.US_ASCII);
        example(readme);
        allCallsAreTold(readme);
        D.end();
    }

    private static void example(String readme) throws IOException, ReflectiveOperationException {
        Matcher block = Pattern.compile("(?s)```java\n(.*?)```").matcher(readme);
        D.due("there is an example", block.find() ? 1 : 0, 1);
        Path folder = Files.createTempDirectory("readme");
        try {
            Path source = folder.resolve("Example.java");
            Files.writeString(source, asClass(block.group(1)));
            int made = ToolProvider.getSystemJavaCompiler().run(null, null, null, "-cp",
                System.getProperty("java.class.path"), "-d", folder.toString(), source.toString());
            D.due("the example compiles", made, 0);
            if (made == 0) {
                runIn(folder);
            }
        } finally {
            for (String name : new String[] {"Example.java", "Example.class"}) {
                Files.deleteIfExists(folder.resolve(name));
            }
            Files.delete(folder);
        }
    }

    /** Each line of the example, with its answer noted where one is told. */
    private static String asClass(String example) {
        StringBuilder s = new StringBuilder("public final class Example implements java.util.function.Supplier<long[][]> {\n"
            + "  public long[][] get() {\n    java.util.List<long[]> all = new java.util.ArrayList<>();\n");
        int calls = 0;
        for (String line : example.split("\n")) {
            Matcher m = CALL.matcher(line);
            boolean told = m.matches();
            D.due("its answer is told: " + line, told || line.startsWith("VisitHall hall = ") ? 1 : 0, 1);
            if (!told) {
                s.append(line).append('\n');
                continue;
            }
            calls++;
            if (m.group(1) != null) {
                s.append("int ").append(m.group(1)).append(" = ").append(m.group(2)).append(";\n");
            }
            s.append("all.add(new long[] {").append(m.group(1) != null ? m.group(1) : m.group(2)).append(", ")
                .append(m.group(3)).append("});\n");
        }
        D.due("calls were found", calls > 20 ? 1 : 0, 1);
        return s.append("    return all.toArray(new long[0][]);\n  }\n}\n").toString();
    }

    private static void runIn(Path folder) throws IOException, ReflectiveOperationException {
        try (URLClassLoader loader = new URLClassLoader(new URL[] {folder.toUri().toURL()})) {
            Object example = loader.loadClass("Example").getDeclaredConstructor().newInstance();
            long[][] answers = (long[][]) ((Supplier<?>) example).get();
            for (int i = 0; i < answers.length; i++) {
                D.due("README.md, call " + (i + 1), answers[i][0], answers[i][1]);
            }
        }
    }

    private static void allCallsAreTold(String readme) {
        for (Method m : VisitHall.class.getDeclaredMethods()) {
            if (Modifier.isPublic(m.getModifiers())) {
                String numbers = "\\w+, ".repeat(m.getParameterCount()).replaceAll(", $", "");
                boolean told = Pattern.compile("`" + m.getName() + "\\(" + numbers + "\\)`").matcher(readme).find();
                D.due("README.md tells " + m.getName(), told ? 1 : 0, 1);
            }
        }
    }
}
