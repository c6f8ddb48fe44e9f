import java.lang.reflect.Method;
import java.lang.reflect.Modifier;
import java.net.URL;
import java.net.URLClassLoader;
import java.nio.file.Files;
import java.nio.file.Path;
import java.util.Comparator;
import java.util.List;
import java.util.regex.Matcher;
import java.util.regex.Pattern;
import java.util.stream.Stream;
import javax.tools.ToolProvider;

/**
 * README.md's examples: its java blocks are made one program, in which each call with a number behind it is compared with
 * that number. The block with a static method is the helper that the others use.
 */
public final class ReadmeTest {
    private static final Pattern BLOCK = Pattern.compile("(?ms)^```java\\n(.*?)^```$");
    private static final Pattern ANSWERED = Pattern.compile("(x\\.\\w+\\([^\"]*\\)); +// (-?\\d+).*");
    private static int examples = 0;
    private static int answers = 0;

    /** For the examples, whose class is loaded apart and so sees public ones alone. */
    public static void due(String call, long got, long want) {
        Checks.due(call, got, want);
    }

    private static String program(String page) {
        StringBuilder methods = new StringBuilder();
        StringBuilder main = new StringBuilder();
        Matcher block = BLOCK.matcher(page);
        while (block.find()) {
            if (block.group(1).startsWith("static ")) {
                methods.append(block.group(1));
            } else {
                examples++;
                main.append("{\n").append(example(block.group(1))).append("}\n");
            }
        }
        return "public final class Page {\n" + methods + "public static void main(String[] args) {\n" + main + "}\n}\n";
    }

    private static String example(String block) {
        StringBuilder lines = new StringBuilder();
        for (String line : block.split("\n")) {
            Matcher answered = ANSWERED.matcher(line);
            if (answered.matches()) {
                answers++;
                lines.append("ReadmeTest.due(\"example ").append(examples).append(", ").append(answered.group(1));
                lines.append("\", ").append(answered.group(1)).append(", ").append(answered.group(2)).append(");\n");
            } else {
                Checks.due("a call with no answer: " + line, line.startsWith("x.") ? 1 : 0, 0);
                lines.append(line).append('\n');
            }
        }
        return lines.toString();
    }

    private static void run(String program) throws Exception {
        Path place = Files.createTempDirectory("readme");
        try {
            Path source = place.resolve("Page.java");
            Files.writeString(source, program);
            int failed = ToolProvider.getSystemJavaCompiler().run(null, null, null, "-proc:none", "-cp",
                System.getProperty("java.class.path"), "-d", place.toString(), source.toString());
            Checks.due("the examples compile", failed, 0);
            if (failed == 0) {
                try (URLClassLoader loader = new URLClassLoader(new URL[] {place.toUri().toURL()})) {
                    Method main = loader.loadClass("Page").getMethod("main", String[].class);
                    main.invoke(null, (Object) new String[0]);
                }
            }
        } finally {
            try (Stream<Path> files = Files.walk(place)) {
                for (Path file : files.sorted(Comparator.reverseOrder()).toList()) {
                    Files.delete(file);
                }
            }
        }
    }

    /** Each call and constant of the face is told of, and each test. */
    private static void told(String page) throws Exception {
        for (Method method : SmokeHall.class.getDeclaredMethods()) {
            if (Modifier.isPublic(method.getModifiers())) {
                Checks.due("told of: " + method, page.contains("`" + method.getName() + "(") ? 1 : 0, 1);
            }
        }
        for (String name : List.of("BAD", "NOT", "FULL", "NONE", "NULL", "CAST", "INDEX", "SIZE")) {
            int value = SmokeHall.class.getField(name).getInt(null);
            Checks.due("told of: " + name, page.contains("| " + value + " | `" + name + "` |") ? 1 : 0, 1);
        }
        try (Stream<Path> tests = Files.list(Path.of("src/test/java"))) {
            for (Path test : tests.filter(path -> path.toString().endsWith("Test.java")).toList()) {
                String name = test.getFileName().toString().replace(".java", "");
                Checks.due("told of: " + name, page.contains("`" + name + "`") ? 1 : 0, 1);
            }
        }
    }

    public static void main(String[] args) throws Exception {
        String page = Files.readString(Path.of("README.md"));
        run(program(page));
        Checks.due("examples were found", examples > 0 && answers > 0 ? 1 : 0, 1);
        told(page);
        Checks.finish("ReadmeTest");
    }
}
