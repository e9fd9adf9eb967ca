import java.io.IOException;
import java.lang.reflect.Field;
import java.lang.reflect.Method;
import java.lang.reflect.Modifier;
import java.nio.file.Files;
import java.nio.file.Path;
import java.util.ArrayList;
import java.util.List;
import java.util.Set;
import java.util.TreeSet;
import java.util.regex.Matcher;
import java.util.regex.Pattern;

/** What README.md tells: its examples compile and answer as it says, its commands run, its tables are whole. */
public final class ReadmeTest {
    private static final Check check = new Check("ReadmeTest");
    private static final Path README = Path.of("README.md");
    private static final Path MAIN = Path.of("src/main/java/PloughDepot.java");
    private static final Path TESTS = Path.of("src/test/java");
    private static final Path SHARED = Path.of("../shared/tests");
    private static final Pattern BLOCK = Pattern.compile("(?m)^```(\\w+)\\n((?:(?!```).*\\n)*)```$");
    private static final Pattern PROGRAM = Pattern.compile("^public final class (\\w+) ");
    private static final Pattern CALL = Pattern.compile("^(int \\w+ = )?(depot\\.\\w+\\([^;]*\\)); +// (-?\\d+|[A-Z]+|'.')(: .*)?$");
    private static final Pattern TEXT = Pattern.compile("the signs of the text (\\S+)$");
    private static final String MAKES = "PloughDepot depot = new PloughDepot();";
    private static final String RUNS_ALL = ".ci/run";
    private static final int MOST_CALLS = 512;

    private static final List<String> languages = new ArrayList<>();
    private static final List<String> blocks = new ArrayList<>();

    public static void main(String[] args) throws IOException, InterruptedException {
        String readme = Files.readString(README);
        for (Matcher m = BLOCK.matcher(readme); m.find(); ) {
            languages.add(m.group(1));
            blocks.add(m.group(2));
        }
        callsAnswerAsTold();
        commandsRun();
        constantsAreWhole(readme);
        callsAreWhole(readme);
        testsAreWhole(readme);
        check.end();
    }

    /** All examples that are no whole programs, one behind the other: as they stand, and with their answers looked at. */
    private static void callsAnswerAsTold() throws IOException, InterruptedException {
        StringBuilder asTheyStand = new StringBuilder();
        StringBuilder lookedAt = new StringBuilder();
        int calls = 0;
        for (int i = 0; i < blocks.size(); i++) {
            if (!languages.get(i).equals("java") || PROGRAM.matcher(blocks.get(i)).find()) continue;
            for (String line : blocks.get(i).split("\n")) {
                asTheyStand.append(line).append('\n');
                lookedAt.append(line.equals(MAKES) ? line : withLook(line)).append('\n');
                calls += line.equals(MAKES) ? 0 : 1;
            }
        }
        check.holds("there are examples", calls > 0 && calls < MOST_CALLS);
        Path all = Files.createTempDirectory("readme-test");
        Shell.write(all.resolve("AsTheyStand.java"), program("AsTheyStand", asTheyStand.toString()));
        Shell.write(all.resolve("LookedAt.java"), program("LookedAt", lookedAt.toString()));
        String main = MAIN.toAbsolutePath().toString();
        Shell compiled = Shell.run(all, "javac -d . '" + main + "' AsTheyStand.java LookedAt.java");
        check.due("the examples compile: " + compiled.output, compiled.exit, 0);
        check.due("the examples run", Shell.run(all, "java -cp . AsTheyStand").exit, 0);
        Shell run = Shell.run(all, "java -cp . LookedAt");
        check.due("the examples answer as told: " + run.output, run.exit, 0);
        check.holds("all are asked: " + run.output, run.output.endsWith(calls + " calls\n"));
        Shell.delete(all);
    }

    private static String withLook(String line) {
        Matcher m = CALL.matcher(line);
        boolean isCall = m.matches();
        check.holds("an example tells what it answers: " + line, isCall);
        if (!isCall) return "";
        String due = Character.isUpperCase(m.group(3).charAt(0)) ? "PloughDepot." + m.group(3) : m.group(3);
        String look = (m.group(1) == null ? "" : m.group(1)) + "due(\"" + m.group(2) + "\", " + m.group(2) + ", " + due + ");";
        Matcher text = TEXT.matcher(line);
        return text.find() ? look + " signs(depot, \"" + text.group(1) + "\");" : look;
    }

    private static String program(String name, String lines) {
        return "public final class " + name + " {\n"
            + "static int calls = 0;\n"
            + "static int wrong = 0;\n"
            + "static int due(String call, int got, int want) {\n"
            + "calls++;\n"
            + "if (got != want) { wrong++; System.out.println(call + \" answered \" + got + \", README.md tells \" + want); }\n"
            + "return got; }\n"
            + "static void signs(PloughDepot depot, String text) {\n"
            + "for (int i = 0; i < text.length(); i++) if (depot.sign(i) != text.charAt(i)) { wrong++; System.out.println(\"sign \" + i); }\n"
            + "if (depot.sign(text.length()) != PloughDepot.NONE) { wrong++; System.out.println(\"the text is longer\"); } }\n"
            + "public static void main(String[] args) {\n" + lines
            + "System.out.println(calls + \" calls\");\n"
            + "if (wrong != 0) System.exit(1); } }\n";
    }

    /** In a copy of the project, with the whole programs of README.md beside src; CiTest looks at the command that runs all. */
    private static void commandsRun() throws IOException, InterruptedException {
        Path all = Files.createTempDirectory("readme-test");
        Path project = all.resolve("main");
        Shell.copy(MAIN, project);
        for (Path test : Shell.filesOf(TESTS)) Shell.copy(test, project);
        for (Path test : Shell.filesOf(SHARED)) Shell.write(all.resolve("shared/tests").resolve(test.getFileName()), Files.readString(test));
        int programs = 0;
        int commands = 0;
        boolean runsAll = false;
        for (int i = 0; i < blocks.size(); i++) {
            Matcher m = PROGRAM.matcher(blocks.get(i));
            if (languages.get(i).equals("java") && m.find()) {
                Shell.write(project.resolve(m.group(1) + ".java"), blocks.get(i));
                programs++;
            }
            if (languages.get(i).equals("sh")) {
                runsAll |= blocks.get(i).trim().equals(RUNS_ALL);
                if (blocks.get(i).trim().equals(RUNS_ALL)) continue;
                commandsRun(project, i);
                commands++;
            }
        }
        check.holds("README.md tells the command that runs all tests", runsAll);
        check.due("whole programs", programs, 1);
        check.due("other commands: for a program, a test, a shared test", commands, 3);
        Shell.delete(all);
    }

    private static void commandsRun(Path project, int i) throws IOException, InterruptedException {
        Shell run = Shell.run(project, blocks.get(i));
        check.due("exit of " + blocks.get(i) + run.output, run.exit, 0);
        if (i + 1 < blocks.size() && languages.get(i + 1).equals("text")) {
            check.holds("it prints what README.md tells: " + run.output, run.output.equals(blocks.get(i + 1)));
        }
    }

    private static void constantsAreWhole(String readme) throws IOException {
        Set<String> due = new TreeSet<>();
        for (Field f : PloughDepot.class.getFields()) due.add(f.getName() + valueOf(f));
        Set<String> told = new TreeSet<>();
        Matcher m = Pattern.compile("(?m)^\\| `([A-Z]+)` \\| (-\\d+) \\|").matcher(readme);
        while (m.find()) told.add(m.group(1) + m.group(2));
        check.holds("all constants are told: " + told, told.equals(due) && due.size() == 9);
    }

    private static int valueOf(Field constant) {
        try {
            return constant.getInt(null);
        } catch (IllegalAccessException e) {
            return 0;
        }
    }

    /** Each call stands once in the table of all calls, with as many arguments as it takes. */
    private static void callsAreWhole(String readme) {
        Set<String> due = new TreeSet<>();
        for (Method method : PloughDepot.class.getDeclaredMethods()) {
            if (Modifier.isPublic(method.getModifiers())) due.add(method.getName() + " " + method.getParameterCount());
        }
        Set<String> told = new TreeSet<>();
        int calls = 0;
        Matcher m = Pattern.compile("`(\\w+)\\(([^)]*)\\)`").matcher(section(readme, "### All calls"));
        for (; m.find(); calls++) told.add(m.group(1) + " " + (m.group(2).isEmpty() ? 0 : m.group(2).split(", ").length));
        check.holds("all calls are told: " + told, told.equals(due));
        check.due("calls in the table", calls, due.size());
    }

    private static void testsAreWhole(String readme) throws IOException {
        Set<String> due = new TreeSet<>();
        for (Path file : Shell.filesOf(TESTS)) {
            String name = file.getFileName().toString();
            if (name.endsWith("Test.java")) due.add(name.substring(0, name.length() - ".java".length()));
        }
        Set<String> told = new TreeSet<>();
        for (String line : section(readme, "## Tests").split("\n")) {
            if (!line.startsWith("| `")) continue;
            Matcher m = Pattern.compile("`(\\w+)`").matcher(line.substring(0, line.indexOf(" | ")));
            while (m.find()) told.add(m.group(1));
        }
        check.holds("all tests are told: " + told, told.equals(due));
    }

    /** From a heading up to the next one. */
    private static String section(String readme, String heading) {
        int from = readme.indexOf("\n" + heading + "\n");
        check.holds("there is the heading " + heading, from >= 0);
        if (from < 0) return "";
        int to = readme.indexOf("\n#", from + 1);
        return readme.substring(from, to < 0 ? readme.length() : to);
    }
}
