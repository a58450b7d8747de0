import java.io.IOException;
import java.lang.reflect.Method;
import java.lang.reflect.Modifier;
import java.net.URL;
import java.net.URLClassLoader;
import java.nio.file.Files;
import java.nio.file.Path;
import java.util.ArrayList;
import java.util.Comparator;
import java.util.List;
import java.util.TreeSet;
import java.util.regex.Matcher;
import java.util.regex.Pattern;
import java.util.stream.Stream;
import javax.tools.ToolProvider;

/** README.md: its example answers what it says there, and each call has a row of its own. */
public final class ReadmeTest {
    private static final Pattern ANSWER =
            Pattern.compile("(?:(\\w+) (\\w+) = )?(bench\\..*);\\s+// (-?\\d+|true|false)(?::.*)?");
    private static final Pattern REFUSAL = Pattern.compile("(bench\\..*);\\s+// throws (\\w+)(?::.*)?");
    private static final Pattern EXCEPTION = Pattern.compile("`(\\w+Exception)`");

    public static void main(String[] args) {
        Check.runAll(ReadmeTest.class);
    }

    private static List<String> lines() throws IOException {
        return Files.readAllLines(Path.of("README.md"));
    }

    private static List<String> example() throws IOException {
        List<String> all = lines();
        int begin = all.indexOf("```java") + 1;
        int length = all.subList(begin, all.size()).indexOf("```");
        return all.subList(begin, begin + length);
    }

    /** The example as a program: each answer that it tells is compared. */
    private static String program() throws IOException {
        List<String> body = new ArrayList<>();
        for (String line : example()) {
            Matcher answer = ANSWER.matcher(line);
            Matcher refusal = REFUSAL.matcher(line);
            if (answer.matches()) {
                String name = answer.group(2);
                body.add(name == null ? "" : answer.group(1) + " " + name + " = " + answer.group(3) + ";");
                body.add("due(\"" + answer.group(3) + "\", " + (name == null ? answer.group(3) : name)
                        + " + \"\", \"" + answer.group(4) + "\");");
            } else if (refusal.matches()) {
                body.add("{ String got = \"nothing\"; try { " + refusal.group(1)
                        + "; } catch (RuntimeException e) { got = e.getClass().getSimpleName(); }");
                body.add("due(\"" + refusal.group(1) + "\", got, \"" + refusal.group(2) + "\"); }");
            } else {
                body.add(line);
            }
        }
        return "public final class Example implements Runnable {\n"
                + "static void due(String call, String got, String due) {\n"
                + "if (!got.equals(due)) throw new RuntimeException(call + \" gave \" + got + \", due is \" + due);\n"
                + "}\n"
                + "public void run() {\n" + String.join("\n", body) + "\n}\n}\n";
    }

    private static void exampleAnswersWhatItSays() throws Exception {
        Path place = Files.createTempDirectory("readme");
        try {
            Path source = place.resolve("Example.java");
            Files.writeString(source, program());
            int failed = ToolProvider.getSystemJavaCompiler().run(null, null, null,
                    "-cp", System.getProperty("java.class.path"), "-d", place.toString(), source.toString());
            Check.same("compiling the example", failed, 0);
            URL[] where = {place.toUri().toURL()};
            try (URLClassLoader loader = new URLClassLoader(where, ReadmeTest.class.getClassLoader())) {
                Object example = loader.loadClass("Example").getDeclaredConstructor().newInstance();
                ((Runnable) example).run();
            }
        } finally {
            remove(place);
        }
    }

    private static void remove(Path place) throws IOException {
        try (Stream<Path> all = Files.walk(place)) {
            for (Path p : all.sorted(Comparator.reverseOrder()).toList()) {
                Files.delete(p);
            }
        }
    }

    /** But for those of no answer: the bench itself, and dial. */
    private static void exampleTellsItsAnswers() throws IOException {
        long silent = example().stream()
                .filter(line -> !ANSWER.matcher(line).matches() && !REFUSAL.matcher(line).matches())
                .count();
        Check.same("lines without an answer", silent, 2);
        Check.yes("there is an example", example().size() > 10);
    }

    /** The row names the parameters in their number, and the exceptions that the call may throw. */
    private static void eachCallHasARow() throws IOException {
        for (Method m : RelayBench.class.getDeclaredMethods()) {
            if (Modifier.isPublic(m.getModifiers())) {
                List<String> rows = lines().stream()
                        .filter(line -> line.startsWith("| `" + m.getName() + "(")).toList();
                Check.same("rows of " + m.getName(), rows.size(), 1);
                rows.forEach(row -> rowTells(m, row));
            }
        }
    }

    private static void rowTells(Method m, String row) {
        String named = row.substring(row.indexOf('(') + 1, row.indexOf(')'));
        int many = named.isEmpty() ? 0 : named.split(", ").length;
        Check.same("parameters of " + m.getName(), many, m.getParameterCount());
        TreeSet<String> due = new TreeSet<>();
        for (Class<?> thrown : m.getExceptionTypes()) {
            due.add(thrown.getSimpleName());
        }
        TreeSet<String> got = new TreeSet<>();
        EXCEPTION.matcher(row).results().forEach(found -> got.add(found.group(1)));
        Check.same("what " + m.getName() + " refuses", got.toString(), due.toString());
    }

    private static void eachTestHasARow() throws IOException {
        List<String> all = lines();
        try (Stream<Path> tests = Files.list(Path.of("src/test/java"))) {
            for (Path test : tests.toList()) {
                String name = test.getFileName().toString().replace(".java", "");
                if (name.endsWith("Test")) {
                    Check.yes(name + " has a row",
                            all.stream().anyMatch(line -> line.startsWith("| `" + name + "` |")));
                }
            }
        }
    }
}
