import java.io.IOException;
import java.nio.file.Files;
import java.nio.file.Path;

/** .ci/run, in small projects of its own: it lets a project pass only if all its tests pass. */
public final class CiTest {
    private static final Check check = new Check("CiTest");
    private static final Path RUN = Path.of(".ci/run");
    /** It is about the tests, not about the class, so a small one will do. */
    private static final String DEPOT = "public final class PloughDepot { public int count(int what) { return 0; } }\n";
    private static final String PASSES = "if (new PloughDepot().count(0) != 0) System.exit(1);";
    private static final String FAILS = "if (new PloughDepot().count(0) == 0) System.exit(1);";
    private static final String THROWS = "throw new IllegalStateException(\"as it should\");";
    private static final String DOES_NOT_COMPILE = "int i = \"no number\";";

    public static void main(String[] args) throws IOException, InterruptedException {
        check.holds(".ci/run can be run", Files.isExecutable(RUN));
        allPass();
        oneOfTheProjectDoesNot("fails", FAILS, "FAIL OtherTest");
        oneOfTheProjectDoesNot("throws", THROWS, "FAIL OtherTest");
        oneOfTheProjectDoesNot("does not compile", DOES_NOT_COMPILE, "FAIL");
        oneOfTheSharedDoesNot("fails", FAILS, "FAIL OtherRuns");
        oneOfTheSharedDoesNot("throws", THROWS, "FAIL OtherRuns");
        oneOfTheSharedDoesNot("does not compile", DOES_NOT_COMPILE, "FAIL");
        noneIsShared();
        check.end();
    }

    private static void allPass() throws IOException, InterruptedException {
        Path all = project();
        test(all, "main/src/test/java/OtherTest.java", PASSES);
        test(all, "shared/tests/OtherRuns.java", PASSES);
        Shell run = Shell.run(all.resolve("main"), ".ci/run");
        check.due("exit where all tests pass", run.exit, 0);
        for (String name : new String[] {"FirstTest", "OtherTest", "FirstRuns", "OtherRuns"}) {
            check.holds(name + " is run: " + run.output, run.output.matches("(?s).*\\bok +" + name + "\\b.*"));
        }
        check.holds("nothing is left in the project", Shell.filesOf(all.resolve("main")).isEmpty());
        Shell fromElsewhere = Shell.run(all, "main/.ci/run");
        check.due("exit where it is called from elsewhere", fromElsewhere.exit, 0);
        Shell.delete(all);
    }

    private static void oneOfTheProjectDoesNot(String how, String body, String told) throws IOException, InterruptedException {
        Path all = project();
        test(all, "main/src/test/java/OtherTest.java", body);
        isRefused(all, "a test of the project " + how, told);
    }

    private static void oneOfTheSharedDoesNot(String how, String body, String told) throws IOException, InterruptedException {
        Path all = project();
        test(all, "shared/tests/OtherRuns.java", body);
        isRefused(all, "a shared test " + how, told);
    }

    private static void noneIsShared() throws IOException, InterruptedException {
        Path all = project();
        Files.delete(all.resolve("shared/tests/FirstRuns.java"));
        isRefused(all, "there is no shared test", "FAIL");
    }

    private static void isRefused(Path all, String where, String told) throws IOException, InterruptedException {
        Shell run = Shell.run(all.resolve("main"), ".ci/run");
        check.due("exit where " + where, run.exit, 1);
        check.holds("it tells " + told + " where " + where + ": " + run.output, run.output.contains(told));
        Shell.delete(all);
    }

    /** A project with one test of its own and one that is shared, both of which pass. */
    private static Path project() throws IOException {
        Path all = Files.createTempDirectory("ci-test");
        Shell.copy(RUN, all.resolve("main"));
        Shell.write(all.resolve("main/src/main/java/PloughDepot.java"), DEPOT);
        test(all, "main/src/test/java/FirstTest.java", PASSES);
        test(all, "shared/tests/FirstRuns.java", PASSES);
        return all;
    }

    private static void test(Path all, String file, String body) throws IOException {
        String name = file.substring(file.lastIndexOf('/') + 1, file.lastIndexOf('.'));
        Shell.write(all.resolve(file), "public final class " + name + " { public static void main(String[] args) { " + body + " } }\n");
    }
}
