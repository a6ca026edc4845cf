import java.io.IOException;
import java.nio.file.Files;
import java.nio.file.Path;
import java.nio.file.StandardCopyOption;
import java.util.List;

/** That .ci/run, in a clean checkout, ends with 0 if all is well and with 1 if anything is not. */
public final class CiTest {
    private static final String CLASS = "src/main/java/EightOnIce.java";
    private static final String TEST = "src/test/java/OneTest.java";
    private static final String SHARED = "../shared/tests/Runs.java";
    private static final String BROKEN = "no Java";
    private static final Check check = new Check();

    /** A checkout in which a file has another text (null: it is not there), and how .ci/run ends in it. */
    private record Case(String what, String file, String text, int due) { }

    public static void main(String[] args) throws Exception {
        List<Case> cases = List.of(
            new Case("all is well", TEST, ends("OneTest", "System.exit(0);"), 0),
            new Case("a test of the project fails", TEST, ends("OneTest", "System.exit(1);"), 1),
            new Case("a test of the project throws", TEST, ends("OneTest", "args[0].length();"), 1),
            new Case("a test of the project does not compile", TEST, BROKEN, 1),
            new Case("the project has no test", TEST, null, 1),
            new Case("one of two tests of the project fails", "src/test/java/AnotherTest.java",
                ends("AnotherTest", "System.exit(1);"), 1),
            new Case("a shared test fails", SHARED, ends("Runs", "System.exit(1);"), 1),
            new Case("a shared test does not compile", SHARED, BROKEN, 1),
            new Case("one of two shared tests fails", "../shared/tests/Others.java",
                ends("Others", "System.exit(1);"), 1),
            new Case("there is no shared test", SHARED, null, 1),
            new Case("nothing is shared", "../shared", null, 1),
            new Case("the class does not compile", CLASS, BROKEN, 1),
            new Case("there is no class", CLASS, null, 1));
        List<int[]> ends = cases.parallelStream().map(CiTest::endOf).toList();
        for (int i = 0; i < ends.size(); i++) {
            Case each = cases.get(i);
            check.due(".ci/run, if " + each.what + ",", ends.get(i)[0], each.due);
            check.due("what .ci/run leaves behind, if " + each.what + ",", ends.get(i)[1], 0);
        }
        check.finish("CiTest");
    }

    private static String ends(String name, String how) {
        return "public final class " + name + " { public static void main(String[] args) { "
            + "new EightOnIce(); " + how + " } }\n";
    }

    /** How .ci/run ends in the checkout of a case, and how many files more there are then. */
    private static int[] endOf(Case each) {
        try {
            Path tree = Files.createTempDirectory("checkout");
            try {
                Path checkout = tree.resolve("main");
                put(checkout, CLASS, "public final class EightOnIce { }\n");
                put(checkout, TEST, ends("OneTest", ""));
                put(checkout, SHARED, ends("Runs", ""));
                put(checkout, each.file, each.text);
                Files.createDirectories(checkout.resolve(".ci"));
                Files.copy(Path.of(".ci/run"), checkout.resolve(".ci/run"), StandardCopyOption.COPY_ATTRIBUTES);
                int before = filesIn(tree);
                // It is started from elsewhere: where it stands is told by its own place.
                int end = new ProcessBuilder(checkout.resolve(".ci/run").toString()).directory(tree.toFile())
                    .redirectErrorStream(true).redirectOutput(ProcessBuilder.Redirect.DISCARD).start().waitFor();
                return new int[] {end, filesIn(tree) - before};
            } finally {
                ReadmeTest.removeAll(tree);
            }
        } catch (IOException | InterruptedException e) {
            throw new IllegalStateException(e);
        }
    }

    private static void put(Path checkout, String file, String text) throws IOException {
        Path path = checkout.resolve(file).normalize();
        Files.createDirectories(path.getParent());
        if (text == null) {
            ReadmeTest.removeAll(path);
        } else {
            Files.writeString(path, text);
        }
    }

    private static int filesIn(Path tree) throws IOException {
        try (java.util.stream.Stream<Path> paths = Files.walk(tree)) {
            return (int) paths.count();
        }
    }
}
