import java.io.IOException;
import java.lang.reflect.Field;
import java.lang.reflect.Method;
import java.lang.reflect.Modifier;
import java.nio.file.Files;
import java.nio.file.Path;
import java.util.ArrayList;
import java.util.Arrays;
import java.util.List;
import java.util.Set;
import java.util.TreeSet;
import java.util.regex.Matcher;
import java.util.regex.Pattern;

/** The document's face, and those rules of the language that can be looked at from outside. */
public final class LanguageTest {
    private static final Check check = new Check("LanguageTest");
    private static final String SOURCE = "src/main/java/PloughDepot.java";
    private static final String[] FACE = {
        "crossings(int)", "street(int,int,int,boolean)", "oneWay(int,boolean)", "shut(int,boolean)", "sides(int,int)", "told(int,int)",
        "way(int,int)", "wayAt(int,int,int)", "gauge(int,boolean)", "row(int,int)", "lose(int)", "reading(int,int,int)", "none(int,int,int)",
        "read(int,int)", "copy(int,int,int,int,int)", "copies(int,int,int)", "snow(int)", "melt(int,int)", "plough(int,int)",
        "pair(int,int,int)", "out(int)", "asks(int,int,int)", "salt(int,int)", "odd(int)", "least(int)", "round()", "at(int,int)",
        "length(int)", "partner(int)", "split()", "part(int,int)", "go(int,int)", "looks()", "text()", "sign(int)", "digest()", "undo()",
        "findings(int)", "status()", "trace()", "count(int)"};
    private static final String[] CONSTANTS = {"NONE", "BAD", "FULL", "NULL", "INDEX", "CAST", "SIZE", "NO", "DEEP"};
    private static final String[] NEVER = {
        "\\bthrows?\\b", "\\btry\\b", "\\bcatch\\b", "\\bfinally\\b", "\\bsynchronized\\b", "\\bassert\\b", "\\bpackage\\b", "\\brecord\\b", "->",
        "::", "\\bstatic\\s*\\{", "\\bpublic static (?!final)", "\\bMath\\.\\w*Exact\\b", "\\bSystem\\.(?!arraycopy)", "\\bArrays\\.(?!fill|copyOf)",
        "\\bimport (?!java\\.util\\.(Arrays|ArrayList|List|Iterator);)", "\\bdouble\\b", "\\bfloat \\w+ = .*%", "\"[^\"]*\"\\s*\\+", "\\+\\s*\"",
        "\\bInteger\\.\\w*parse", "\\bString\\.format", "\\bprintln?\\b"};

    public static void main(String[] args) throws IOException {
        face();
        constants();
        namesOfMethods();
        classes();
        source(withoutComments(Files.readString(Path.of(SOURCE))));
        check.end();
    }

    private static void face() {
        Set<String> due = new TreeSet<>(Arrays.asList(FACE));
        Set<String> is = new TreeSet<>();
        for (Method m : PloughDepot.class.getDeclaredMethods()) {
            if (Modifier.isPrivate(m.getModifiers())) continue;
            check.holds(m.getName() + " is public and answers an int", Modifier.isPublic(m.getModifiers()) && m.getReturnType() == int.class);
            List<String> types = new ArrayList<>();
            for (Class<?> type : m.getParameterTypes()) types.add(type.getName());
            is.add(m.getName() + "(" + String.join(",", types) + ")");
        }
        check.holds("the methods are those of the document: " + is, is.equals(due));
        check.due("constructors", PloughDepot.class.getDeclaredConstructors().length, 1);
        check.due("constructors that are public", PloughDepot.class.getConstructors().length, 1);
        check.due("arguments of the constructor", PloughDepot.class.getConstructors()[0].getParameterCount(), 0);
        check.holds("the class is public and final", Modifier.isPublic(PloughDepot.class.getModifiers()) && Modifier.isFinal(PloughDepot.class.getModifiers()));
    }

    private static void constants() {
        Set<String> due = new TreeSet<>(Arrays.asList(CONSTANTS));
        Set<String> is = new TreeSet<>();
        for (Field f : PloughDepot.class.getDeclaredFields()) {
            if (!Modifier.isPrivate(f.getModifiers())) is.add(f.getName());
        }
        check.holds("the constants are those of the document: " + is, is.equals(due));
        int[] values = {PloughDepot.NONE, PloughDepot.BAD, PloughDepot.FULL, PloughDepot.NULL, PloughDepot.INDEX, PloughDepot.CAST, PloughDepot.SIZE,
            PloughDepot.NO, PloughDepot.DEEP};
        for (int i = 0; i < values.length; i++) check.due(CONSTANTS[i], values[i], -1 - i);
    }

    private static void namesOfMethods() {
        Set<String> face = new TreeSet<>();
        for (String f : FACE) face.add(f.substring(0, f.indexOf('(')));
        for (Method m : PloughDepot.class.getDeclaredMethods()) {
            check.holds(m + " takes seven arguments at most", m.getParameterCount() <= 7);
            check.holds(m + " bears no public name", Modifier.isPublic(m.getModifiers()) || !face.contains(m.getName()));
        }
        for (Class<?> c : PloughDepot.class.getDeclaredClasses()) {
            for (Method m : c.getDeclaredMethods()) {
                check.holds(m + " takes seven arguments at most", m.getParameterCount() <= 7);
                check.holds(m + " bears no public name", !face.contains(m.getName()));
            }
        }
    }

    private static void classes() {
        List<Class<?>> all = new ArrayList<>(Arrays.asList(PloughDepot.class.getDeclaredClasses()));
        check.holds("twelve classes at most", all.size() + 1 <= 12);
        for (Class<?> c : all) {
            check.holds(c + " is private and static", Modifier.isPrivate(c.getModifiers()) && Modifier.isStatic(c.getModifiers()));
        }
        all.add(PloughDepot.class);
        for (Class<?> c : all) {
            int fields = 0;
            for (Field f : c.getDeclaredFields()) {
                boolean isStatic = Modifier.isStatic(f.getModifiers());
                fields += isStatic ? 0 : 1;
                check.holds(f + " is no static state", !isStatic || Modifier.isFinal(f.getModifiers()) && f.getType() == int.class);
            }
            check.holds(c + " has twenty fields at most", fields <= 20);
        }
    }

    private static String withoutComments(String text) {
        return text.replaceAll("(?s)/\\*.*?\\*/", "").replaceAll("//[^\n]*", "");
    }

    private static void source(String code) {
        for (String never : NEVER) {
            Matcher m = Pattern.compile(never).matcher(code);
            check.holds("the source has no " + never, !m.find());
        }
        Pattern begin = Pattern.compile("( {4}| {8})(?! |if|for|while|switch|else|return|do\\b)[\\w\\[\\] ]+\\(.*\\) \\{");
        String[] lines = code.split("\n");
        int methods = 0;
        for (int first = 0; first < lines.length; first++) {
            Matcher m = begin.matcher(lines[first]);
            if (!m.matches()) continue;
            int last = first;
            while (!lines[last].equals(m.group(1) + "}")) last++;
            check.holds("sixty lines at most: " + lines[first], last - first < 60);
            methods++;
        }
        check.holds("methods are found", methods > 100);
    }
}
