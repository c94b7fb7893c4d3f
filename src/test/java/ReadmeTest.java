import java.io.IOException;
import java.lang.reflect.Method;
import java.lang.reflect.Modifier;
import java.net.URL;
import java.net.URLClassLoader;
import java.nio.file.Files;
import java.nio.file.Path;
import java.util.ArrayList;
import java.util.List;
import java.util.function.BiConsumer;
import java.util.regex.Matcher;
import java.util.regex.Pattern;
import java.util.stream.Stream;
import javax.tools.ToolProvider;

/**
 * README.md: its Java is compiled and run as it stands there, all blocks one after another, and
 * each call answers what is told behind it. Promises 2 to 31: every call of the face is shown.
 */
public final class ReadmeTest {
    private static final Due D = new Due("ReadmeTest");
    private static final Path README = Path.of("README.md");
    /** A call with its answer: 'x.pass();  // 3: how many carts there are'. */
    private static final Pattern TOLD = Pattern.compile("(x\\.(\\w+)\\(.*\\));\\s*// (-?[\\w.]+): .+");

    public static void main(String[] args) throws IOException, ReflectiveOperationException {
        List<String> code = code(Files.readAllLines(README));
        everyCallIsShown(code);
        everyTestIsNamed(Files.readString(README));
        run(code);
        D.end();
    }

    /** The lines of all blocks of Java. */
    private static List<String> code(List<String> readme) {
        List<String> code = new ArrayList<>();
        boolean isJava = false;
        for (String line : readme) {
            if (line.startsWith("```")) {
                isJava = line.equals("```java");
            } else if (isJava) {
                code.add(line);
            }
        }
        return code;
    }

    private static void everyCallIsShown(List<String> code) {
        for (Method m : FirstCart.class.getDeclaredMethods()) {
            if (Modifier.isPublic(m.getModifiers())) {
                boolean isShown = code.stream().anyMatch(line -> line.contains("x." + m.getName() + "("));
                D.due(m.getName() + " is shown", isShown ? 1 : 0, 1);
            }
        }
    }

    private static void everyTestIsNamed(String readme) throws IOException {
        try (Stream<Path> files = Files.list(Path.of("src/test/java"))) {
            for (Path file : files.filter(f -> f.toString().endsWith("Test.java")).toList()) {
                String name = file.getFileName().toString().replace(".java", "");
                D.due(name + " has its line", readme.contains("| " + name + " |") ? 1 : 0, 1);
            }
        }
    }

    private static void run(List<String> code) throws IOException, ReflectiveOperationException {
        Path folder = Files.createTempDirectory("readme");
        Path source = folder.resolve("Readme.java");
        Path compiled = folder.resolve("Readme.class");
        try {
            Files.writeString(source, program(code));
            int exit = ToolProvider.getSystemJavaCompiler().run(null, null, null, "-d", folder.toString(),
                "-cp", System.getProperty("java.class.path"), source.toString());
            D.due("javac of README.md's Java", exit, 0);
            if (exit == 0) {
                call(folder);
            }
        } finally {
            Files.deleteIfExists(source);
            Files.deleteIfExists(compiled);
            Files.deleteIfExists(folder);
        }
    }

    private static void call(Path folder) throws IOException, ReflectiveOperationException {
        BiConsumer<String, int[]> due = (call, answers) -> D.due(call, answers[0], answers[1]);
        try (URLClassLoader loader = new URLClassLoader(new URL[] {folder.toUri().toURL()})) {
            loader.loadClass("Readme").getMethod("run", BiConsumer.class).invoke(null, due);
        }
    }

    /** The README's Java, where each call with an answer told behind it becomes a look at it. */
    private static String program(List<String> code) {
        StringBuilder all = new StringBuilder("public class Readme {\n"
            + "public static void run(java.util.function.BiConsumer<String, int[]> due) {\n");
        int told = 0;
        for (String line : code) {
            Matcher m = TOLD.matcher(line);
            if (m.matches()) {
                all.append("due.accept(\"").append(m.group(1)).append("\", new int[] {").append(m.group(1))
                    .append(", ").append(m.group(3)).append("});\n");
                told++;
            } else {
                D.due("an answer is told behind " + line, line.startsWith("x.") ? 1 : 0, 0);
                all.append(line).append('\n');
            }
        }
        D.due("answers are told", told > 0 ? 1 : 0, 1);
        return all.append("}\n}\n").toString();
    }
}
