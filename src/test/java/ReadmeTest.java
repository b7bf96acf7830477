import java.io.IOException;
import java.lang.reflect.Method;
import java.lang.reflect.Modifier;
import java.net.URL;
import java.net.URLClassLoader;
import java.nio.file.Files;
import java.nio.file.Path;
import java.util.ArrayList;
import java.util.List;
import java.util.Set;
import java.util.TreeSet;
import java.util.regex.Matcher;
import java.util.regex.Pattern;
import java.util.stream.Collectors;
import java.util.stream.Stream;
import javax.tools.ToolProvider;

/** README.md: its example compiles and answers as it says, and its tables name every call and every test. */
public final class ReadmeTest {
    private static final Check CHECK = new Check();
    private static final Pattern ROW = Pattern.compile("int (\\w+) = (book\\..*?\\));\\s+// (-?\\d+)\\b.*");

    public static void main(String[] args) throws IOException, ReflectiveOperationException {
        String text = Files.readString(Path.of("README.md"));
        example(text);
        calls(text);
        tests(text);
        refusals(text);
        CHECK.due("the way to run the tests is told", text.contains("\n    .ci/run\n") ? 1 : 0, 1);
        CHECK.due(".ci/run may be run", Files.isExecutable(Path.of(".ci/run")) ? 1 : 0, 1);
        CHECK.end();
    }

    private static void example(String text) throws IOException, ReflectiveOperationException {
        Matcher block = Pattern.compile("(?s)```java\n(.*?)```").matcher(text);
        CHECK.due("there is an example", block.find() ? 1 : 0, 1);
        List<String> told = new ArrayList<>();
        List<Integer> due = new ArrayList<>();
        StringBuilder body = new StringBuilder();
        StringBuilder names = new StringBuilder();
        for (String line : block.group(1).split("\n")) {
            body.append(line).append('\n');
            Matcher row = ROW.matcher(line);
            if (row.matches()) {
                told.add(row.group(2));
                due.add(Integer.parseInt(row.group(3)));
                names.append(names.length() == 0 ? "" : ", ").append(row.group(1));
            } else {
                CHECK.due("no row without its answer: " + line, line.endsWith("new GrazeBook();") ? 1 : 0, 1);
            }
        }
        int[] answers = run("public final class Example { public static int[] answers() {\n" + body
            + "return new int[] {" + names + "}; } }\n");
        CHECK.due("answers of the example", answers.length, due.size());
        for (int i = 0; i < answers.length; i++) {
            CHECK.due("the example's " + told.get(i), answers[i], due.get(i));
        }
    }

    private static int[] run(String source) throws IOException, ReflectiveOperationException {
        Path out = Files.createTempDirectory("readme");
        Path file = out.resolve("Example.java");
        try {
            Files.writeString(file, source);
            int failed = ToolProvider.getSystemJavaCompiler().run(null, null, null, "-cp",
                System.getProperty("java.class.path"), "-d", out.toString(), file.toString());
            CHECK.due("the example compiles", failed, 0);
            if (failed != 0) {
                return new int[0];
            }
            try (URLClassLoader loader = new URLClassLoader(new URL[] {out.toUri().toURL()})) {
                return (int[]) loader.loadClass("Example").getMethod("answers").invoke(null);
            }
        } finally {
            for (String name : List.of("Example.java", "Example.class")) {
                Files.deleteIfExists(out.resolve(name));
            }
            Files.deleteIfExists(out);
        }
    }

    /** A call is named with as many numbers as it takes. */
    private static void calls(String text) {
        Set<String> told = new TreeSet<>();
        Matcher row = Pattern.compile("`(\\w+)\\(([^)]*)\\)`").matcher(section(text, "| what for |"));
        while (row.find()) {
            told.add(row.group(1) + " of " + row.group(2).split(",").length);
        }
        Set<String> face = new TreeSet<>();
        for (Method method : GrazeBook.class.getDeclaredMethods()) {
            if (Modifier.isPublic(method.getModifiers())) {
                face.add(method.getName() + " of " + method.getParameterCount());
            }
        }
        CHECK.due("calls that are told " + told + " are those of the class " + face, told.equals(face) ? 1 : 0, 1);
    }

    private static void tests(String text) throws IOException {
        Set<String> told = new TreeSet<>();
        Matcher row = Pattern.compile("(?m)^\\| `(\\w+)` \\|").matcher(section(text, "| test |"));
        while (row.find()) {
            told.add(row.group(1) + ".java");
        }
        try (Stream<Path> files = Files.list(Path.of("src/test/java"))) {
            Set<String> there = files.map(file -> file.getFileName().toString())
                .filter(name -> name.endsWith("Test.java")).collect(Collectors.toCollection(TreeSet::new));
            CHECK.due("tests that are told " + told + " are those there " + there, told.equals(there) ? 1 : 0, 1);
        }
    }

    private static void refusals(String text) {
        String rows = section(text, "| refusal |");
        for (int why = -1; why >= -6; why--) {
            Pattern row = Pattern.compile("\n\\| " + why + " \\|.*`count\\(" + (10 - why) + "\\)`");
            CHECK.due("refusal " + why + " is told", row.matcher(rows).find() ? 1 : 0, 1);
        }
    }

    /** The table that begins with such a row. */
    private static String section(String text, String head) {
        int start = text.indexOf("\n" + head);
        CHECK.due("there is a table " + head, start >= 0 ? 1 : 0, 1);
        int end = start < 0 ? -1 : text.indexOf("\n\n", start);
        return start < 0 ? "" : text.substring(start, end < 0 ? text.length() : end);
    }
}
