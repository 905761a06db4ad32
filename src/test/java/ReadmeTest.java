import java.io.IOException;
import java.io.File;
import java.lang.reflect.Method;
import java.lang.reflect.Modifier;
import java.nio.file.Files;
import java.nio.file.Path;
import java.util.ArrayList;
import java.util.Comparator;
import java.util.List;
import java.util.Set;
import java.util.TreeSet;
import java.util.regex.Matcher;
import java.util.regex.Pattern;
import java.util.stream.Collectors;
import java.util.stream.Stream;

/** That what README.md says is so. */
public final class ReadmeTest {
    private static final Path SCRIPT = Path.of(".ci/run");
    private static final Path PLACE = Path.of("build/readme");
    private static final String PASSES = "public static void main(String[] a) { }";
    private static final String FAILS = "public static void main(String[] a) { System.exit(1); }";

    private ReadmeTest() {
    }

    public static void main(String[] args) throws Exception {
        clear(PLACE);
        String readme = Files.readString(Path.of("README.md"));
        example(readme);
        calls(readme);
        tests(readme);
        script(readme);
        Script.finish();
    }

    private static void require(boolean holds, String what) {
        Script.due("README.md", what, holds ? 1 : 0, 1);
    }

    /** The example as a program of its own, in which a number behind // is the answer that is due. */
    private static void example(String readme) throws Exception {
        Matcher block = Pattern.compile("(?s)```java\n(.*?)```").matcher(readme);
        require(block.find(), "an example");
        Matcher lines = Pattern.compile("(?m)^(votes\\.\\w+\\(.*\\)); +// (-?\\d+): .*$")
                .matcher(block.group(1));
        long answers = lines.results().count();
        require(answers >= 10, "answers in the example: " + answers);
        require(answers == block.group(1).lines().filter(l -> l.startsWith("votes.")).count(),
                "each call of the example has its answer");
        String code = lines.replaceAll("due($1, $2L);");
        Path source = file(PLACE.resolve("example/Example.java"), "import java.nio.ByteBuffer;\n"
                + "import java.nio.charset.StandardCharsets;\nimport java.util.Arrays;\n"
                + "public class Example {\nstatic void due(long got, long want) {\n"
                + "if (got != want) { System.out.println(got + \", not \" + want); System.exit(1); } }\n"
                + "public static void main(String[] a) {\n" + code + "}\n}\n");
        String own = System.getProperty("java.class.path");
        String there = source.getParent().toString();
        require(run(PLACE, null, "javac", "-cp", absolute(own), "-d", absolute(there),
                source.toAbsolutePath().toString()) == 0, "the example compiles");
        require(run(PLACE, null, "java", "-cp",
                absolute(own) + File.pathSeparator + absolute(there), "Example") == 0,
                "the example answers so");
    }

    private static void calls(String readme) {
        String use = readme.substring(0, readme.indexOf("## How to run"));
        Set<String> told = use.lines().filter(l -> l.startsWith("| ") && !l.startsWith("| -"))
                .flatMap(l -> quoted(l).stream()).collect(Collectors.toCollection(TreeSet::new));
        Set<String> there = new TreeSet<>();
        for (Method m : WallVotes.class.getDeclaredMethods()) {
            if (Modifier.isPublic(m.getModifiers())) {
                there.add(m.getName());
            }
        }
        require(told.equals(there), "the calls in the table: " + told);
    }

    private static List<String> quoted(String text) {
        List<String> found = new ArrayList<>();
        Matcher m = Pattern.compile("`([^`]+)`").matcher(text);
        while (m.find()) {
            found.add(m.group(1));
        }
        return found;
    }

    private static void tests(String readme) throws IOException {
        Set<String> there = new TreeSet<>();
        try (Stream<Path> files = Files.list(Path.of("src/test/java"))) {
            files.map(f -> f.getFileName().toString()).filter(n -> n.endsWith("Test.java"))
                    .forEach(n -> there.add(n.substring(0, n.length() - 5)));
        }
        Set<String> told = new TreeSet<>();
        readme.lines().filter(l -> l.startsWith("- `") || l.startsWith("  `"))
                .flatMap(l -> quoted(l).stream()).filter(n -> n.matches("\\w+Test")).forEach(told::add);
        require(told.equals(there), "the tests: " + told);
        for (String path : quoted(readme)) {
            if (path.matches("[\\w./]+/[\\w./]+|\\w+\\.md")) {
                require(Files.exists(Path.of(path)), "there is " + path);
            }
        }
    }

    /** What it says of .ci/run, on small projects of their own. */
    private static void script(String readme) throws Exception {
        require(readme.contains("\n    .ci/run\n"), "how to run the tests");
        require(Files.isExecutable(SCRIPT), ".ci/run can be executed");

        StringBuilder said = new StringBuilder();
        require(ends("sound", PASSES, PASSES, said) == 0, "0 if all pass");
        for (String name : List.of("FirstTest", "LastTest", "shared Alone", "shared Runs")) {
            require(said.indexOf("== " + name + "\n") >= 0, name + " is run");
        }
        require(said.indexOf("Helper") < 0, "a file that is no *Test is not run");

        said.setLength(0);
        require(ends("own", FAILS, PASSES, said) != 0, "not 0 if a test of the project fails");
        require(said.indexOf("== LastTest\n") > 0 && said.indexOf("== shared Runs\n") > 0,
                "it goes on behind a test that fails");
        require(ends("shared", PASSES, FAILS, said) != 0, "not 0 if a shared test fails");
        require(ends("broken", "x", PASSES, said) != 0, "not 0 if a test does not compile");
        require(ends("brokenShared", PASSES, "x", said) != 0, "not 0 if a shared one does not compile");
        require(ends("none", PASSES, null, said) != 0, "not 0 without a shared test");
    }

    /** How .ci/run ends in a project whose first test, and first shared test, have these bodies. */
    private static int ends(String name, String own, String shared, StringBuilder said)
            throws Exception {
        Path main = PLACE.resolve(name).resolve("main");
        Path script = main.resolve(SCRIPT);
        Files.createDirectories(script.getParent());
        Files.copy(SCRIPT, script);
        file(main.resolve("src/main/java/WallVotes.java"), "public final class WallVotes { }");
        file(main.resolve("src/test/java/FirstTest.java"), "class FirstTest { " + own + " }");
        file(main.resolve("src/test/java/LastTest.java"), "class LastTest { " + PASSES + " }");
        file(main.resolve("src/test/java/Helper.java"), "class Helper { " + FAILS + " }");
        Files.createDirectories(main.resolveSibling("shared/tests"));
        if (shared != null) {
            // a class of the same name in both would not compile, if they were compiled together
            file(main.resolveSibling("shared/tests/Alone.java"),
                    "class Alone { WallVotes x; " + shared + " } class Own { }");
            file(main.resolveSibling("shared/tests/Runs.java"),
                    "class Runs { " + PASSES + " } class Own { }");
        }
        return run(PLACE, said, script.toAbsolutePath().toString());
    }

    private static Path file(Path path, String text) throws IOException {
        Files.createDirectories(path.getParent());
        return Files.writeString(path, text);
    }

    private static String absolute(String path) {
        return Path.of(path).toAbsolutePath().toString();
    }

    /** Its exit code; what it printed is added to what was said, or shown if nobody asks for it. */
    private static int run(Path from, StringBuilder said, String... command) throws Exception {
        Process process = new ProcessBuilder(command).directory(from.toFile())
                .redirectErrorStream(true).start();
        String printed = new String(process.getInputStream().readAllBytes());
        if (said != null) {
            said.append(printed);
        } else {
            System.out.print(printed);
        }
        return process.waitFor();
    }

    private static void clear(Path place) throws IOException {
        if (Files.exists(place)) {
            try (Stream<Path> files = Files.walk(place)) {
                for (Path f : files.sorted(Comparator.reverseOrder()).toList()) {
                    Files.delete(f);
                }
            }
        }
        Files.createDirectories(place);
    }
}
