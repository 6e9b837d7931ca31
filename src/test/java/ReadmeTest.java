import java.io.IOException;
import java.io.StringWriter;
import java.lang.reflect.Method;
import java.lang.reflect.Modifier;
import java.net.URL;
import java.net.URLClassLoader;
import java.nio.charset.StandardCharsets;
import java.nio.file.Files;
import java.nio.file.Path;
import java.util.ArrayList;
import java.util.Comparator;
import java.util.List;
import java.util.Set;
import java.util.TreeSet;
import java.util.function.Supplier;
import java.util.regex.Matcher;
import java.util.regex.Pattern;
import java.util.stream.Stream;
import javax.tools.JavaCompiler;
import javax.tools.ToolProvider;

/** That what README.md says is true: its example, its numbers, its calls, its command and its list of tests. */
public final class ReadmeTest {
    private static final Checks CHECKS = new Checks("ReadmeTest");
    private static final Path README = Path.of("README.md");
    private static final Path TESTS = Path.of("src/test/java");
    private static final Pattern CALL = Pattern.compile("(?:int \\w+ = )?(x\\.\\w+\\(.*\\));\\s*// (.*)");
    private static final Pattern MADE = Pattern.compile("int (\\w+) = .*");

    private final String text;

    private ReadmeTest() throws IOException {
        text = Files.readString(README, StandardCharsets.UTF_8);
    }

    public static void main(String[] args) throws Exception {
        ReadmeTest test = new ReadmeTest();
        test.example();
        test.calls();
        test.command();
        test.tests();
        CHECKS.end();
    }

    /** The example is compiled and run as it is written; each call must answer what stands behind it. */
    private void example() throws Exception {
        List<String> lines = block("```java\n").lines().toList();
        CHECKS.sameText("the example begins", lines.get(0), "TracedSums x = new TracedSums();");
        List<String> asked = new ArrayList<>();
        List<String> told = new ArrayList<>();
        StringBuilder body = new StringBuilder(lines.get(0)).append('\n');
        for (String line : lines.subList(1, lines.size())) {
            Matcher call = CALL.matcher(line);
            if (!call.matches()) {
                CHECKS.fail("the example has no call and answer in: " + line);
                continue;
            }
            asked.add(call.group(1));
            told.add(call.group(2));
            body.append(asking(line, call.group(1)));
        }
        List<String> answers = answersOf(body.toString());
        CHECKS.same("answers", answers.size(), told.size());
        for (int i = 0; i < answers.size() && i < told.size(); i++) {
            CHECKS.sameText(asked.get(i) + " in the example", answers.get(i), answerIn(told.get(i)));
        }
    }

    /** The line of the example, and behind it what puts down its answer. */
    private static String asking(String line, String call) {
        String code = line.substring(0, line.indexOf("; ") + 1);
        Matcher made = MADE.matcher(code);
        if (made.matches()) {
            return code + "\nanswers.add(\"\" + " + made.group(1) + ");\n";
        }
        if (call.startsWith("x.explain(")) {
            return "answers.add(ReadmeTest.lines(x, " + call + "));\n";
        }
        return "try { answers.add(\"\" + " + call + "); }\n"
            + "catch (RuntimeException e) { answers.add(\"throws \" + e.getClass().getSimpleName()); }\n";
    }

    /** What a comment says of an answer: up to a colon, but of LINES the texts too. */
    private static String answerIn(String comment) {
        int colon = comment.indexOf(':');
        return colon < 0 || comment.contains(" LINES: ") ? comment : comment.substring(0, colon);
    }

    /** How many LINES, and the texts of them, as the example writes them. */
    public static String lines(TracedSums x, int count) {
        StringBuilder lines = new StringBuilder().append(count).append(" LINES: ");
        for (int k = 0; k < count; k++) {
            lines.append(k == 0 ? "\"" : ", \"").append(Asking.textOf(x, k)).append('"');
        }
        return lines.toString();
    }

    private static List<String> answersOf(String body) throws Exception {
        Path place = Files.createTempDirectory("readme");
        try {
            String made = "import java.util.*;\npublic class Example implements java.util.function.Supplier<List<String>> {\n"
                + "public List<String> get() {\nList<String> answers = new ArrayList<>();\n" + body + "return answers;\n}\n}\n";
            compile(place, made);
            try (URLClassLoader loader = new URLClassLoader(new URL[] {place.toUri().toURL()})) {
                Object example = loader.loadClass("Example").getDeclaredConstructor().newInstance();
                List<String> answers = new ArrayList<>();
                for (Object answer : (List<?>) ((Supplier<?>) example).get()) {
                    answers.add((String) answer);
                }
                return answers;
            }
        } finally {
            remove(place);
        }
    }

    private static void compile(Path place, String program) throws IOException {
        Path file = Files.writeString(place.resolve("Example.java"), program);
        JavaCompiler compiler = ToolProvider.getSystemJavaCompiler();
        StringWriter said = new StringWriter();
        boolean compiled = compiler.getTask(said, null, null,
            List.of("-proc:none", "-cp", System.getProperty("java.class.path"), "-d", place.toString()), null,
            compiler.getStandardFileManager(null, null, null).getJavaFileObjects(file)).call();
        CHECKS.isTrue("the example does not compile: " + said, compiled);
    }

    private static void remove(Path place) throws IOException {
        try (Stream<Path> all = Files.walk(place)) {
            for (Path one : all.sorted(Comparator.reverseOrder()).toList()) {
                Files.delete(one);
            }
        }
    }

    /** Each call of the face has a row in the table, and no other has. */
    private void calls() {
        Set<String> face = new TreeSet<>();
        for (Method method : TracedSums.class.getDeclaredMethods()) {
            if (Modifier.isPublic(method.getModifiers())) {
                face.add(method.getName());
            }
        }
        CHECKS.sameText("the calls of the table", found("(?m)^\\| `(\\w+)\\([^`]*\\)` \\|").toString(), face.toString());
    }

    private void command() {
        String command = block("## How to run its tests\n\n```\n").trim();
        CHECKS.sameText("the command", command, ".ci/run");
        CHECKS.isTrue("the command is not there", Files.isExecutable(Path.of(command)));
    }

    /** The list names each test that the command runs, and no other. */
    private void tests() throws IOException {
        Set<String> there = new TreeSet<>();
        try (Stream<Path> files = Files.list(TESTS)) {
            for (Path file : files.toList()) {
                String name = file.getFileName().toString();
                if (name.endsWith("Test.java")) {
                    there.add(name.substring(0, name.length() - ".java".length()));
                }
            }
        }
        CHECKS.sameText("the tests that are named", found("`(\\w+Test)`").toString(), there.toString());
    }

    private Set<String> found(String pattern) {
        Set<String> found = new TreeSet<>();
        Matcher matcher = Pattern.compile(pattern).matcher(text);
        while (matcher.find()) {
            found.add(matcher.group(1));
        }
        return found;
    }

    /** What stands in the first block that begins so, up to the line that ends it. */
    private String block(String start) {
        int from = text.indexOf("\n" + start);
        int to = from < 0 ? -1 : text.indexOf("\n```\n", from + start.length());
        CHECKS.isTrue("no block begins with " + start, to >= 0);
        return to < 0 ? "" : text.substring(from + 1 + start.length(), to + 1);
    }
}
