import java.io.IOException;
import java.lang.reflect.Method;
import java.nio.file.Files;
import java.nio.file.Path;
import java.util.ArrayList;
import java.util.List;
import java.util.regex.Matcher;
import java.util.regex.Pattern;
import java.util.stream.Stream;

/** What README.md shows holds as it stands there: its calls and their answers, its table, how tests are run. */
public final class ReadmeTest {
    private static final Path TESTS = Path.of("src/test/java");
    private static final int PROMISES = 34;
    /** A call at the margin, with what it answers behind it. */
    private static final Pattern ANSWERED = Pattern.compile("(x\\.(\\w+)\\(.*\\)); +// (-?\\d+)(:.*)?");
    private static final Check check = new Check();

    public static void main(String[] args) throws Exception {
        String readme = Files.readString(Path.of("README.md"));
        List<String> uses = blocks(readme, "java");
        everyCallIsAnswered(uses);
        everyCallIsShown(uses);
        answersHold(uses);
        theWayToRun(readme);
        theTable(readme);
        check.finish("ReadmeTest");
    }

    private static void due(String what, boolean holds) {
        check.due(what, holds ? 1 : 0, 1);
    }

    private static List<String> blocks(String text, String language) {
        List<String> found = new ArrayList<>();
        Matcher matcher = Pattern.compile("(?s)```" + language + "\n(.*?)```").matcher(text);
        while (matcher.find()) {
            found.add(matcher.group(1));
        }
        return found;
    }

    private static void everyCallIsAnswered(List<String> uses) {
        due("README.md shows how to use the class", !uses.isEmpty());
        for (String use : uses) {
            due("a block begins with a new object", use.startsWith("EightOnIce x = new EightOnIce();\n"));
            use.lines().filter(line -> line.startsWith("x."))
                .forEach(line -> due("its answer stands behind " + line, ANSWERED.matcher(line).matches()));
        }
    }

    private static void everyCallIsShown(List<String> uses) {
        String all = String.join("\n", uses);
        for (Method method : FaceTest.publicMethods()) {
            due(method.getName() + "() is shown", all.contains("x." + method.getName() + "("));
        }
    }

    /** The blocks are compiled as they stand, but that each shown answer is compared; they run in a machine of their own. */
    private static void answersHold(List<String> uses) throws Exception {
        Path out = Files.createTempDirectory("readme");
        try {
            Path source = out.resolve("ReadmeUse.java");
            Files.writeString(source, programOf(uses));
            String classes = System.getProperty("java.class.path");
            check.due("README.md compiles", run("javac", "-cp", classes, "-d", out.toString(), source.toString()), 0);
            String both = out + java.io.File.pathSeparator + classes;
            check.due("README.md holds", run("java", "-cp", both, "ReadmeUse"), 0);
        } finally {
            removeAll(out);
        }
    }

    private static String programOf(List<String> uses) {
        StringBuilder program = new StringBuilder("final class ReadmeUse {\n"
            + "  public static void main(String[] args) {\n    Check check = new Check();\n");
        for (String use : uses) {
            program.append("{\n");
            use.lines().forEach(line -> program.append(compared(line)).append('\n'));
            program.append("}\n");
        }
        return program + "    check.finish(\"README.md\");\n  }\n}\n";
    }

    private static String compared(String line) {
        Matcher matcher = ANSWERED.matcher(line);
        if (!matcher.matches()) {
            return line;
        }
        return "check.due(\"" + matcher.group(1) + "\", " + matcher.group(1) + ", " + matcher.group(3) + "L);";
    }

    private static int run(String... command) throws IOException, InterruptedException {
        return new ProcessBuilder(command).inheritIO().start().waitFor();
    }

    static void removeAll(Path tree) throws IOException {
        try (Stream<Path> paths = Files.walk(tree)) {
            paths.sorted(java.util.Comparator.reverseOrder()).forEach(path -> path.toFile().delete());
        }
    }

    private static void theWayToRun(String readme) {
        List<String> ways = blocks(readme, "sh");
        check.due("how many ways to run the tests", ways.size(), 1);
        for (String way : ways) {
            due(way + " is there and can be run", Files.isExecutable(Path.of(way.trim())));
            due(way + " is the script of CI", way.equals(".ci/run\n"));
        }
    }

    private static void theTable(String readme) throws IOException {
        String table = readme.substring(readme.indexOf("| test |"));
        try (Stream<Path> files = Files.list(TESTS)) {
            files.map(file -> file.getFileName().toString()).filter(name -> name.endsWith("Test.java"))
                .forEach(name -> due(name + " stands in the table", inFirstColumn(table, name.replace(".java", ""))));
        }
        Matcher named = Pattern.compile("\\b\\w+Test\\b").matcher(table);
        while (named.find()) {
            due(named.group() + " is there", Files.exists(TESTS.resolve(named.group() + ".java"))
                || named.group().equals("EdgesTest"));
        }
        for (int promise = 1; promise <= PROMISES; promise++) {
            due("a test of promise " + promise, hasPromise(table, promise));
        }
    }

    private static boolean inFirstColumn(String table, String test) {
        return Pattern.compile("(?m)^\\| (\\w+, )*" + test + "(, \\w+)* \\|").matcher(table).find();
    }

    /** In the second column of a row, as a number or between the two of "8 to 10". */
    private static boolean hasPromise(String table, int promise) {
        Matcher numbers = Pattern.compile("(?m)(\\d+)(?: to (\\d+))?(?=,| \\|$)").matcher(table);
        while (numbers.find()) {
            int first = Integer.parseInt(numbers.group(1));
            int last = numbers.group(2) == null ? first : Integer.parseInt(numbers.group(2));
            if (first <= promise && promise <= last) {
                return true;
            }
        }
        return false;
    }
}
