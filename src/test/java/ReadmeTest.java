import java.io.IOException;
import java.lang.reflect.Method;
import java.lang.reflect.Modifier;
import java.net.URL;
import java.net.URLClassLoader;
import java.nio.file.Files;
import java.nio.file.Path;
import java.util.ArrayList;
import java.util.Arrays;
import java.util.List;
import java.util.Set;
import java.util.TreeSet;
import java.util.regex.Matcher;
import java.util.regex.Pattern;
import java.util.stream.Stream;
import javax.tools.ToolProvider;

/** What README.md shows of the class's use is so: its Java is compiled, and each call answers what stands behind it. */
public final class ReadmeTest {
    private static final Path README = Path.of("README.md");
    private static final Path TESTS = Path.of("src/test/java");
    private static final String NEW_OBJECT = "MicroTasks x = new MicroTasks();";
    private static final Pattern CALL = Pattern.compile("(x\\.(\\w+)\\(.*?\\)); *(?:// (.*))?");
    private static final Pattern ANSWER = Pattern.compile("(true|false|BAD|\\d+)(?:: .+)?");

    private static final Set<String> shown = new TreeSet<>();

    public static void main(String[] args) throws IOException, ReflectiveOperationException {
        List<String> readme = Files.readAllLines(README);
        runInItsOwnClass(statementsOf(readme));
        Check.due("the calls that README.md shows, " + shown + ", are all", shown.equals(callsOfTheFace()), true);
        testsAreNamed(String.join("\n", readme));
        Check.end();
    }

    /** The lines of each block of Java, as statements that compare; a block has an object of its own. */
    private static List<String> statementsOf(List<String> readme) {
        List<String> statements = new ArrayList<>();
        boolean inJava = false;
        for (int i = 0; i < readme.size(); i++) {
            String line = readme.get(i);
            if (line.equals("```java")) {
                inJava = true;
                statements.add("{");
            } else if (inJava && line.equals("```")) {
                inJava = false;
                statements.add("}");
            } else if (inJava) {
                statements.add(statementOf("README.md line " + (i + 1), line));
            }
        }
        return statements;
    }

    private static String statementOf(String where, String line) {
        if (line.equals(NEW_OBJECT)) {
            return line;
        }
        Matcher call = CALL.matcher(line);
        boolean isCall = call.matches();
        Check.due(where + " is a call: " + line, isCall, true);
        if (!isCall) {
            return "";
        }
        shown.add(call.group(2));
        if (answersNothing(call.group(2))) {
            return call.group(1) + ";";
        }
        Matcher answer = ANSWER.matcher(call.group(3) == null ? "" : call.group(3));
        boolean hasAnswer = answer.matches();
        Check.due(where + " tells an answer: " + line, hasAnswer, true);
        if (!hasAnswer) {
            return call.group(1) + ";";
        }
        String due = answer.group(1).equals("BAD") ? "MicroTasks.BAD" : answer.group(1);
        return "ReadmeTest.due(\"" + where + ": " + call.group(1) + "\", " + call.group(1) + ", " + due + ");";
    }

    private static boolean answersNothing(String name) {
        return Arrays.stream(MicroTasks.class.getDeclaredMethods())
                .anyMatch(m -> m.getName().equals(name) && m.getReturnType() == void.class);
    }

    private static Set<String> callsOfTheFace() {
        Set<String> names = new TreeSet<>();
        for (Method m : MicroTasks.class.getDeclaredMethods()) {
            if (Modifier.isPublic(m.getModifiers())) {
                names.add(m.getName());
            }
        }
        return names;
    }

    /** Public, since Shown comes from another class loader, which does not see Check. */
    public static void due(String call, int got, int want) {
        Check.due(call, got, want);
    }

    public static void due(String call, boolean got, boolean want) {
        Check.due(call, got, want);
    }

    private static void runInItsOwnClass(List<String> statements) throws IOException, ReflectiveOperationException {
        Path folder = Files.createTempDirectory("readme");
        Path source = folder.resolve("Shown.java");
        try {
            Files.writeString(source, "final class Shown { static void all() {\n" + String.join("\n", statements) + "\n} }\n");
            int exit = ToolProvider.getSystemJavaCompiler().run(null, null, null,
                    "-cp", System.getProperty("java.class.path"), "-d", folder.toString(), source.toString());
            Check.due("exit code of the compiler for what README.md shows", exit, 0);
            if (exit == 0) {
                call(folder);
            }
        } finally {
            for (Path file : List.of(source, folder.resolve("Shown.class"), folder)) {
                Files.deleteIfExists(file);
            }
        }
    }

    private static void call(Path folder) throws IOException, ReflectiveOperationException {
        try (URLClassLoader loader = new URLClassLoader(new URL[] {folder.toUri().toURL()})) {
            Method all = loader.loadClass("Shown").getDeclaredMethod("all");
            all.setAccessible(true);
            all.invoke(null);
        }
    }

    private static void testsAreNamed(String readme) throws IOException {
        try (Stream<Path> files = Files.list(TESTS)) {
            files.map(f -> f.getFileName().toString().replace(".java", ""))
                    .forEach(name -> Check.due("README.md names " + name, readme.contains("`" + name + "`"), true));
        }
        Check.due("README.md says how to run the tests", readme.contains("```sh\n.ci/run\n```"), true);
    }
}
