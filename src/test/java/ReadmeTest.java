import java.io.File;
import java.io.IOException;
import java.lang.reflect.Method;
import java.lang.reflect.Modifier;
import java.net.URL;
import java.net.URLClassLoader;
import java.nio.file.Files;
import java.nio.file.Path;
import java.util.ArrayList;
import java.util.List;
import java.util.Set;
import java.util.TreeSet;
import java.util.regex.Matcher;
import java.util.regex.Pattern;
import javax.tools.ToolProvider;

/** What README.md says is so; to be run from where README.md is. */
public final class ReadmeTest {
    private static final Pattern EXCEPTION = Pattern.compile("`([A-Za-z]+Exception)`");
    private static final Pattern TEST_NAME = Pattern.compile("`([A-Z][A-Za-z]*Test)`");

    private final Check check = new Check();
    private final List<String> lines = Files.readAllLines(Path.of("README.md"));

    private ReadmeTest() throws IOException {
    }

    public static void main(String[] args) throws Exception {
        ReadmeTest test = new ReadmeTest();
        test.exampleAnswers();
        test.exampleHasEveryCall();
        test.tableHasEveryCall();
        test.listHasEveryTest();
        test.check.end();
    }

    private void exampleAnswers() throws Exception {
        check.about("README: The comment behind a call begins with its answer.");
        List<String> called = new ArrayList<>();
        List<String> due = new ArrayList<>();
        StringBuilder body = new StringBuilder();
        for (String line : example()) {
            String[] parts = line.split("//", 2);
            String code = parts[0].trim();
            check.due(code + " is a statement", true, code.endsWith(";"));
            if (code.contains("new LogTree()")) {
                body.append(code).append('\n');
            } else {
                body.append(told(code));
                called.add(code);
                due.add(parts.length < 2 ? "no answer is named" : parts[1].split(":", 2)[0].trim());
            }
        }
        List<?> answers = answersOf(body.toString());
        check.due("the example's answers", due.size(), answers.size());
        for (int i = 0; i < Math.min(due.size(), answers.size()); i++) {
            check.dueText(called.get(i), due.get(i), (String) answers.get(i));
        }
    }

    /** The lines of the example that are not empty. */
    private List<String> example() {
        List<String> found = new ArrayList<>();
        boolean inside = false;
        for (String line : lines) {
            if (line.startsWith("```")) {
                inside = line.equals("```java");
            } else if (inside && !line.isBlank()) {
                found.add(line);
            }
        }
        return found;
    }

    /** A statement of the example, so that its answer is kept: a new variable's or a bare call's. */
    private static String told(String code) {
        Matcher variable = Pattern.compile("long (\\w+) = .*").matcher(code);
        if (variable.matches()) {
            return code + " tell(() -> " + variable.group(1) + ");\n";
        }
        return "tell(() -> " + code.replaceAll(";$", "") + ");\n";
    }

    private static List<?> answersOf(String body) throws Exception {
        String source = "import java.util.*;\n"
                + "public final class Example {\n"
                + "private static final List<String> TOLD = new ArrayList<>();\n"
                + "private static void tell(java.util.function.Supplier<Object> call) {\n"
                + "try { TOLD.add(\"\" + call.get()); }\n"
                + "catch (RuntimeException e) { TOLD.add(\"throws \" + e.getClass().getSimpleName()); } }\n"
                + "public static List<String> answers() {\n" + body + "return TOLD; } }\n";
        Path room = Files.createTempDirectory("readme");
        Path file = Files.writeString(room.resolve("Example.java"), source);
        try {
            int refused = ToolProvider.getSystemJavaCompiler().run(null, null, null,
                    "-cp", System.getProperty("java.class.path"), "-d", room.toString(), file.toString());
            return refused != 0 ? List.of() : answersFrom(room);
        } finally {
            for (File left : room.toFile().listFiles()) {
                Files.delete(left.toPath());
            }
            Files.delete(room);
        }
    }

    private static List<?> answersFrom(Path room) throws Exception {
        try (URLClassLoader loader = new URLClassLoader(new URL[] {room.toUri().toURL()})) {
            return (List<?>) loader.loadClass("Example").getMethod("answers").invoke(null);
        }
    }

    private void exampleHasEveryCall() {
        check.about("README: the example");
        String text = String.join("\n", example());
        for (Method method : LogTree.class.getDeclaredMethods()) {
            if (Modifier.isPublic(method.getModifiers())) {
                check.due("has " + method.getName(), true, text.contains("tree." + method.getName() + "("));
            }
        }
    }

    private void tableHasEveryCall() {
        check.about("README: the table of calls");
        Set<String> due = new TreeSet<>(Set.of("LogTree() throws []"));
        for (Method method : LogTree.class.getDeclaredMethods()) {
            if (Modifier.isPublic(method.getModifiers())) {
                List<String> thrown = names(method.getExceptionTypes());
                due.add(method.getReturnType() + " " + method.getName() + "("
                        + String.join(", ", names(method.getParameterTypes())) + ") throws " + thrown);
            }
        }
        Set<String> found = new TreeSet<>();
        for (String line : lines) {
            if (line.startsWith("| `")) {
                String[] cells = line.split(" *\\| *");
                // The parameters' names are not the class's to tell: only their types are compared.
                String call = cells[1].replace("`", "").replaceAll("(int|long) \\w+(?=[,)])", "$1");
                found.add(call + " throws " + exceptions(cells.length > 3 ? cells[3] : ""));
            }
        }
        check.dueText("the rows", due.toString(), found.toString());
    }

    private static List<String> names(Class<?>[] types) {
        List<String> names = new ArrayList<>();
        for (Class<?> type : types) {
            names.add(type.getSimpleName());
        }
        return names;
    }

    private static List<String> exceptions(String text) {
        List<String> names = new ArrayList<>();
        Matcher matcher = EXCEPTION.matcher(text);
        while (matcher.find()) {
            names.add(matcher.group(1));
        }
        return names;
    }

    /** .ci/run takes the files named ..Test for tests: no other may have a main method to run. */
    private void listHasEveryTest() throws IOException {
        check.about("README: .ci/run runs every test of the project");
        Set<String> tests = new TreeSet<>();
        for (File file : new File("src/test/java").listFiles()) {
            String name = file.getName().replaceAll("\\.java$", "");
            check.due(name + " is a file of Java", true, file.isFile() && file.getName().endsWith(".java"));
            boolean runs = Files.readString(file.toPath()).contains("void main(String[]");
            check.due(name + " is a test", name.endsWith("Test"), runs);
            check.due(name + " is told of", true, String.join("\n", lines).contains("`" + name + "`"));
            if (runs) {
                tests.add(name);
            }
        }
        Set<String> told = new TreeSet<>();
        Matcher matcher = TEST_NAME.matcher(String.join("\n", lines));
        while (matcher.find()) {
            told.add(matcher.group(1));
        }
        check.dueText("the tests told of", tests.toString(), told.toString());
    }
}
