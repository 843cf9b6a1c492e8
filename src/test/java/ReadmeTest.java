import java.io.IOException;
import java.lang.reflect.Method;
import java.lang.reflect.Modifier;
import java.net.URL;
import java.net.URLClassLoader;
import java.nio.charset.StandardCharsets;
import java.nio.file.Files;
import java.nio.file.Path;
import java.util.ArrayList;
import java.util.List;
import java.util.regex.Matcher;
import java.util.regex.Pattern;
import java.util.stream.Stream;
import javax.tools.ToolProvider;

/** What README.md says: its example is compiled and run, and its tables name the whole face. */
public final class ReadmeTest {
    private static final Pattern ANSWERED = Pattern.compile("(town\\..*);\\s*// (throws )?([\\w.]*\\w).*");

    private static int wrong = 0;
    private static int answers = 0;

    public static void main(String[] args) throws Exception {
        String readme = Files.readString(Path.of("README.md"), StandardCharsets.UTF_8);
        namesTheFace(readme);
        int start = readme.indexOf("```java\n");
        int end = readme.indexOf("```\n", start + 1);
        if (start < 0 || end < 0) {
            fault("there is no example");
        } else {
            runExample(readme.substring(start + "```java\n".length(), end));
        }
        System.out.println(wrong == 0 ? answers + " answers are as README.md says" : wrong + " faults of README.md");
        if (wrong != 0) {
            System.exit(1);
        }
    }

    private static void fault(String what) {
        wrong++;
        System.out.println(what);
    }

    /** Called by the example for each answer that README.md tells. */
    public static void due(String call, Object got, String want) {
        answers++;
        if (!got.toString().equals(want)) {
            fault(call + ": answered " + got + ", README.md says " + want);
        }
    }

    private static void namesTheFace(String readme) {
        for (Method method : TramTolls.class.getDeclaredMethods()) {
            if (!Modifier.isPublic(method.getModifiers())) {
                continue;
            }
            Matcher told = Pattern.compile("\\| `" + method.getName() + "\\(([^)]*)\\)` \\|").matcher(readme);
            if (!told.find()) {
                fault("README.md does not tell " + method.getName());
                continue;
            }
            int parameters = told.group(1).isEmpty() ? 0 : told.group(1).split(",").length;
            if (parameters != method.getParameterCount()) {
                fault("README.md tells " + told.group() + " with " + parameters + " parameters");
            }
        }
    }

    private static void runExample(String example) throws Exception {
        List<String> lines = new ArrayList<>();
        lines.add("public final class ReadmeExample {");
        lines.add("public static void run() {");
        for (String line : example.split("\n")) {
            Matcher answered = ANSWERED.matcher(line);
            lines.add(answered.matches() ? checked(answered) : line);
        }
        lines.add("}");
        lines.add("}");
        Path dir = Files.createTempDirectory("readme");
        try {
            Path source = Files.write(dir.resolve("ReadmeExample.java"), lines, StandardCharsets.UTF_8);
            String path = System.getProperty("java.class.path");
            String[] options = {"-cp", path, "-d", dir.toString(), source.toString()};
            if (ToolProvider.getSystemJavaCompiler().run(null, null, null, options) != 0) {
                fault("the example does not compile");
                return;
            }
            try (URLClassLoader loader = new URLClassLoader(new URL[] {dir.toUri().toURL()})) {
                loader.loadClass("ReadmeExample").getMethod("run").invoke(null);
            }
        } finally {
            remove(dir);
        }
    }

    private static String checked(Matcher answered) {
        String call = answered.group(1);
        String due = "ReadmeTest.due(\"" + call + "\", ";
        String want = ", \"" + answered.group(3) + "\");";
        if (answered.group(2) == null) {
            return due + call + want;
        }
        return "try { " + due + call + ", \"no answer\"); }"
            + " catch (RuntimeException e) { " + due + "e.getClass().getSimpleName()" + want + " }";
    }

    private static void remove(Path dir) throws IOException {
        try (Stream<Path> files = Files.list(dir)) {
            for (Path file : files.toList()) {
                Files.delete(file);
            }
        }
        Files.delete(dir);
    }
}
