import java.io.IOException;
import java.lang.reflect.Method;
import java.lang.reflect.Modifier;
import java.net.URL;
import java.net.URLClassLoader;
import java.nio.file.Files;
import java.nio.file.Path;
import java.util.HashMap;
import java.util.List;
import java.util.Map;
import java.util.regex.Matcher;
import java.util.regex.Pattern;
import javax.tools.ToolProvider;

/** The example of README.md: it compiles, has every call of the face, and each answers as the text beside it says. */
public final class ReadmeTest {
    private static final Check CHECK = new Check("README.md");
    private static final Pattern CALL =
        Pattern.compile("\\s*((?:int|long) (\\w+) = )?(book\\.(\\w+)\\(.*\\));(?:\\s*// (throws \\w+|-?\\w+)(?::.*)?)?");
    private static final String THROWS = "throws IllegalStateException";
    private static final Map<String, Integer> CONSTANTS = Map.of(
        "NONE", FundBook.NONE, "RANGE", FundBook.RANGE, "STATE", FundBook.STATE,
        "FULL", FundBook.FULL, "BAND", FundBook.BAND, "CURRENCY", FundBook.CURRENCY);

    public static void main(String[] args) throws Exception {
        List<String> example = exampleOf(Files.readAllLines(Path.of("README.md")));
        CHECK.due("lines of an example (1 some, 0 none)", example.isEmpty() ? 0 : 1, 1);
        hasEveryCall(example);
        answersAsItSays(example);
        CHECK.end();
    }

    private static List<String> exampleOf(List<String> readme) {
        int start = readme.indexOf("```java") + 1;
        List<String> rest = readme.subList(start, readme.size());
        int length = rest.indexOf("```");
        return start == 0 || length < 0 ? List.of() : rest.subList(0, length);
    }

    private static void hasEveryCall(List<String> example) {
        String text = String.join("\n", example);
        for (Method method : FundBook.class.getDeclaredMethods()) {
            if (Modifier.isPublic(method.getModifiers())) {
                String call = "book." + method.getName() + "(";
                CHECK.due("the example has " + call + ")", text.contains(call) ? 1 : 0, 1);
            }
        }
    }

    private static void answersAsItSays(List<String> example) throws Exception {
        Map<Integer, Long> answers = answersOf(example);
        for (int line = 0; line < example.size(); line++) {
            Matcher call = CALL.matcher(example.get(line));
            if (call.matches()) {
                // A call that threw, or that stands behind one that should have thrown, has no answer.
                long got = answers.getOrDefault(line, Check.THROWN);
                CHECK.due(call.group(3), got, told(call.group(3), call.group(5)));
            } else {
                CHECK.due("a call in a form that can be tested: " + example.get(line),
                    example.get(line).contains("book.") ? 1 : 0, 0);
            }
        }
    }

    private static long told(String call, String text) {
        if (THROWS.equals(text)) {
            return Check.THROWN;
        }
        if (CONSTANTS.containsKey(text == null ? "" : text)) {
            return CONSTANTS.get(text);
        }
        boolean isNumber = text != null && text.matches("-?\\d+");
        CHECK.due("the text beside " + call + " begins with an answer (1 yes, 0 no)", isNumber ? 1 : 0, 1);
        return isNumber ? Long.parseLong(text) : 0;
    }

    /** Compiles the example with its answers kept by line, and runs it. */
    private static Map<Integer, Long> answersOf(List<String> example) throws Exception {
        Path directory = Files.createTempDirectory("readme");
        try {
            Path source = directory.resolve("Example.java");
            Files.writeString(source, programOf(example));
            String classes = System.getProperty("java.class.path");
            int code = ToolProvider.getSystemJavaCompiler().run(null, null, null,
                "-cp", classes, "-d", directory.toString(), source.toString());
            CHECK.due("compiling the example", code, 0);
            return code == 0 ? run(directory) : Map.of();
        } finally {
            for (String file : List.of("Example.java", "Example.class", "")) {
                Files.deleteIfExists(directory.resolve(file));
            }
        }
    }

    private static Map<Integer, Long> run(Path directory) throws IOException, ReflectiveOperationException {
        Map<Integer, Long> answers = new HashMap<>();
        try (URLClassLoader loader = new URLClassLoader(new URL[] {directory.toUri().toURL()})) {
            loader.loadClass("Example").getMethod("run", Map.class).invoke(null, answers);
        }
        return answers;
    }

    private static String programOf(List<String> example) {
        StringBuilder program = new StringBuilder("public final class Example {\n");
        program.append("public static void run(java.util.Map<Integer, Long> answers) {\n");
        for (int line = 0; line < example.size(); line++) {
            program.append(statementOf(line, example.get(line))).append('\n');
        }
        return program.append("}\n}\n").toString();
    }

    private static String statementOf(int line, String text) {
        Matcher call = CALL.matcher(text);
        if (!call.matches()) {
            return text;
        }
        if (call.group(1) == null) {
            return "answers.put(" + line + ", (long) " + call.group(3) + ");";
        }
        String name = call.group(2);
        return call.group(1) + call.group(3) + "; answers.put(" + line + ", (long) " + name + ");";
    }
}
