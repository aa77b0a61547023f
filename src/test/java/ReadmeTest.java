import java.io.ByteArrayOutputStream;
import java.io.IOException;
import java.io.PrintStream;
import java.net.URL;
import java.net.URLClassLoader;
import java.nio.charset.StandardCharsets;
import java.nio.file.Files;
import java.nio.file.Path;
import java.util.ArrayList;
import java.util.Comparator;
import java.util.List;
import java.util.Set;
import java.util.TreeSet;
import java.util.regex.Matcher;
import java.util.regex.Pattern;
import java.util.stream.Collectors;
import java.util.stream.Stream;
import javax.tools.ToolProvider;

/** README.md tells the truth: its program, its calls and its constants are tried out, its list of tests is held against them. */
final class ReadmeTest {
    private static final Pattern PROGRAM =
        Pattern.compile("```java\n(public final class (\\w+) \\{\n.*?)```\n.*?```\n(.*?)```\n", Pattern.DOTALL);
    private static final Pattern CALLS = Pattern.compile("```java\n((?!public ).*?)```\n", Pattern.DOTALL);
    private static final Pattern CALL = Pattern.compile("(\\w+\\.\\w+\\(.*\\)); *// (-?\\d+|[A-Z_]+): .+");
    private static final Pattern CONSTANT = Pattern.compile("\\| `PricedPairs\\.(\\w+)` \\| (-?\\d+) \\|");
    private static final Pattern NAME_OF_TEST = Pattern.compile("- `(\\w+Test)`: ");
    private static final int FEWEST_CALLS = 40;

    private final Checks checks = new Checks();
    private final String readme;
    private final Path program;
    private final Path directory;

    private ReadmeTest(String readme, Path program, Path directory) {
        this.readme = readme;
        this.program = program;
        this.directory = directory;
    }

    public static void main(String[] args) throws IOException, ReflectiveOperationException {
        Path directory = Files.createTempDirectory("readme");
        ReadmeTest test = new ReadmeTest(Files.readString(Path.of(args[2])), Path.of(args[0]), directory);
        try {
            test.program();
            test.calls();
            test.constants();
            test.namesOfTests(Path.of(args[2]).toAbsolutePath().resolveSibling("src/test/java"));
        } finally {
            remove(directory);
        }
        test.checks.finish("ReadmeTest");
    }

    private static void remove(Path directory) throws IOException {
        List<Path> paths;
        try (Stream<Path> all = Files.walk(directory)) {
            paths = all.sorted(Comparator.reverseOrder()).collect(Collectors.toList());
        }
        for (Path path : paths) {
            Files.delete(path);
        }
    }

    /** Compiles a class together with PricedPairs, nothing else being seen, as README.md says, and calls its method. */
    private void run(String name, String source, String method, Class<?> type, Object argument)
        throws IOException, ReflectiveOperationException {
        Path file = Files.writeString(directory.resolve(name + ".java"), source);
        Path classes = directory.resolve(name);
        int code = ToolProvider.getSystemJavaCompiler().run(
            null, null, null, "--release", "17", "-cp", classes.toString(), "-d", classes.toString(), program.toString(), file.toString());
        checks.due(name + " compiles", code, 0);
        URL[] urls = {classes.toUri().toURL()};
        try (URLClassLoader loader = new URLClassLoader(urls, ClassLoader.getPlatformClassLoader())) {
            Class.forName(name, true, loader).getMethod(method, type).invoke(null, argument);
        }
    }

    private void program() throws IOException, ReflectiveOperationException {
        Matcher matcher = PROGRAM.matcher(readme);
        checks.due("there is a program, and what it prints", matcher.find());
        PrintStream out = System.out;
        ByteArrayOutputStream printed = new ByteArrayOutputStream();
        System.setOut(new PrintStream(printed, true, StandardCharsets.UTF_8));
        try {
            run(matcher.group(2), matcher.group(1), "main", String[].class, new String[0]);
        } finally {
            System.setOut(out);
        }
        String text = printed.toString(StandardCharsets.UTF_8).replace(System.lineSeparator(), "\n");
        checks.due("the program prints what is shown, not " + text, text.equals(matcher.group(3)));
    }

    private void calls() throws IOException, ReflectiveOperationException {
        List<String> calls = new ArrayList<>();
        List<String> due = new ArrayList<>();
        StringBuilder source = new StringBuilder("public final class Calls {\n");
        source.append("public static void make(java.util.List<Integer> answers) {\n");
        Matcher blocks = CALLS.matcher(readme);
        while (blocks.find()) {
            for (String line : blocks.group(1).split("\n")) {
                Matcher call = CALL.matcher(line);
                if (call.matches()) {
                    calls.add(call.group(1));
                    due.add(call.group(2));
                    source.append("answers.add(").append(call.group(1)).append(");\n");
                } else {
                    checks.due("\"" + line + "\" makes no call without showing its answer", !line.matches("\\w+\\..*|.*//.*"));
                    source.append(line).append('\n');
                }
            }
        }
        source.append("}\n}\n");
        List<Integer> answers = new ArrayList<>();
        run("Calls", source.toString(), "make", List.class, answers);
        checks.due("as many answers as calls", answers.size(), calls.size());
        checks.due("there are calls: " + calls.size(), calls.size() >= FEWEST_CALLS);
        for (int i = 0; i < calls.size(); i++) {
            checks.due(calls.get(i) + ", call " + i, answers.get(i), number(due.get(i)));
        }
    }

    private static int number(String shown) throws ReflectiveOperationException {
        boolean isName = Character.isLetter(shown.charAt(0));
        return isName ? PricedPairs.class.getField(shown).getInt(null) : Integer.parseInt(shown);
    }

    private void constants() throws ReflectiveOperationException {
        Set<String> names = new TreeSet<>();
        Matcher rows = CONSTANT.matcher(readme);
        while (rows.find()) {
            names.add(rows.group(1));
            checks.due(rows.group(1), number(rows.group(1)), number(rows.group(2)));
        }
        checks.due("all constants are shown", names.size(), PricedPairs.class.getFields().length);
    }

    private void namesOfTests(Path tests) throws IOException {
        Set<String> named = new TreeSet<>();
        Matcher names = NAME_OF_TEST.matcher(readme);
        while (names.find()) {
            named.add(names.group(1));
        }
        Set<String> there = new TreeSet<>();
        try (Stream<Path> files = Files.list(tests)) {
            files.map(file -> file.getFileName().toString()).filter(name -> name.endsWith("Test.java"))
                .forEach(name -> there.add(name.substring(0, name.length() - 5)));
        }
        checks.due("it names the tests " + there + ", not " + named, named.equals(there));
    }
}
