import java.io.IOException;
import java.net.URL;
import java.net.URLClassLoader;
import java.nio.file.Files;
import java.nio.file.Path;
import java.util.ArrayList;
import java.util.Arrays;
import java.util.List;
import java.util.Set;
import java.util.TreeSet;
import java.util.regex.Matcher;
import java.util.regex.Pattern;
import java.util.stream.Collectors;
import java.util.stream.Stream;
import javax.tools.ToolProvider;

/** README.md holds: its commands can be run, its example answers as it says, its table names the tests there are. */
final class ReadmeTest {
    /** A line of the example that tells what its call answers or throws. */
    private static final Pattern TOLD = Pattern.compile("(x\\..*\\));\\s*// (answers|throws) (-?\\w+)\\b.*");
    private static final String EXAMPLE = "ReadmeExample";

    private static final Check check = new Check();

    private ReadmeTest() {
    }

    public static void main(String[] args) throws IOException, ReflectiveOperationException {
        List<String> page = Files.readAllLines(Path.of("README.md"));
        theWayToRunTheTests(page);
        theTableOfTests(page);
        theTableOfCalls(page);
        Path out = Files.createTempDirectory("readme");
        try {
            theWayToCompile(page, out);
            theExample(page, out);
        } finally {
            remove(out);
        }
        check.end();
    }

    private static List<String> section(List<String> page, String title) {
        int first = page.indexOf("## " + title) + 1;
        int end = first;
        while (end < page.size() && !page.get(end).startsWith("## ")) {
            end++;
        }
        return page.subList(first, end);
    }

    /** The lines set in by four blanks, outside the example. */
    private static List<String> commands(List<String> section) {
        List<String> found = new ArrayList<>(section);
        found.removeAll(example(section));
        return found.stream().filter(line -> line.startsWith("    ")).map(String::strip).toList();
    }

    private static List<String> example(List<String> section) {
        int first = section.indexOf("```java") + 1;
        int end = section.indexOf("```");
        return first > 0 && end >= first ? section.subList(first, end) : List.of();
    }

    private static void theWayToRunTheTests(List<String> page) {
        check.due("the commands to run the tests", commands(section(page, "Tests")).toString(), "[.ci/run]");
        check.due(".ci/run can be run", Files.isExecutable(Path.of(".ci/run")), true);
    }

    private static void theTableOfTests(List<String> page) throws IOException {
        Set<String> told = new TreeSet<>();
        for (String row : section(page, "Tests")) {
            Matcher name = Pattern.compile("\\w+Test\\b").matcher(row.startsWith("| ") ? row.split("\\|")[1] : "");
            while (name.find()) {
                told.add(name.group());
            }
        }
        try (Stream<Path> files = Files.list(Path.of("src/test/java"))) {
            Set<String> there = files.map(file -> file.getFileName().toString().replace(".java", ""))
                    .filter(name -> name.endsWith("Test"))
                    .collect(Collectors.toCollection(TreeSet::new));
            check.due("the tests in the table", told.toString(), there.toString());
        }
    }

    private static void theTableOfCalls(List<String> page) {
        Set<String> told = new TreeSet<>();
        for (String row : section(page, "Use")) {
            Matcher name = Pattern.compile("`(\\w+)`").matcher(row.startsWith("| ") ? row : "");
            while (name.find()) {
                told.add(name.group(1));
            }
        }
        Set<String> there = Arrays.stream(FlakeTriage.class.getMethods())
                .filter(method -> method.getDeclaringClass() == FlakeTriage.class)
                .map(method -> method.getName())
                .collect(Collectors.toCollection(TreeSet::new));
        check.due("the calls in the table", told.toString(), there.toString());
    }

    /** The page's own command, but into another directory than the one that it names. */
    private static void theWayToCompile(List<String> page, Path out) {
        List<String> commands = commands(section(page, "Use"));
        check.due("how many commands to compile", commands.size(), 1);
        String arguments = commands.isEmpty() ? "" : commands.get(0).replace("javac -d out ", "");
        check.due("the exit code of " + commands, compile("-d", out.toString(), arguments), 0);
    }

    private static void theExample(List<String> page, Path out) throws IOException, ReflectiveOperationException {
        StringBuilder text = new StringBuilder("public final class " + EXAMPLE + " {\n")
                .append("public static void run(java.util.List<String> wrong) {\n");
        int told = 0;
        for (String line : example(section(page, "Use"))) {
            Matcher call = TOLD.matcher(line.strip());
            boolean tells = call.matches();
            told += tells ? 1 : 0;
            text.append(tells ? tested(call.group(1), call.group(2), call.group(3)) : line).append('\n');
        }
        check.due("whether the example tells answers", told > 0, true);
        Path file = out.resolve(EXAMPLE + ".java");
        Files.writeString(file, text.append("}\n}\n"));
        check.due("the exit code of the example's javac",
                compile("-d", out.toString(), "-cp", out.toString(), file.toString()), 0);
        List<String> wrong = new ArrayList<>();
        // The class that the page's command compiled, not the one of these tests.
        ClassLoader apart = ClassLoader.getPlatformClassLoader();
        try (URLClassLoader loader = new URLClassLoader(new URL[] {out.toUri().toURL()}, apart)) {
            loader.loadClass(EXAMPLE).getMethod("run", List.class).invoke(null, wrong);
        }
        check.due("the lines of the example that do not hold", wrong.toString(), "[]");
    }

    /** Java for: the call does what the line says; the list gets each one that does not. */
    private static String tested(String call, String verb, String due) {
        return "{ String got; try { got = \"answers \" + " + call + "; }"
                + " catch (RuntimeException e) { got = \"throws \" + e.getClass().getSimpleName(); }"
                + " if (!got.equals(\"" + verb + " " + due + "\")) { wrong.add(\"" + call + " \" + got + \", told is "
                + due + "\"); } }";
    }

    private static int compile(String... arguments) {
        return ToolProvider.getSystemJavaCompiler().run(null, null, null, arguments);
    }

    private static void remove(Path directory) throws IOException {
        try (Stream<Path> files = Files.list(directory)) {
            for (Path file : files.toList()) {
                Files.delete(file);
            }
        }
        Files.delete(directory);
    }
}
