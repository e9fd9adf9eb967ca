import java.io.IOException;
import java.lang.reflect.Field;
import java.lang.reflect.Method;
import java.lang.reflect.Modifier;
import java.nio.file.Files;
import java.nio.file.Path;
import java.util.ArrayList;
import java.util.Arrays;
import java.util.List;
import java.util.Set;
import java.util.TreeSet;
import java.util.regex.Matcher;
import java.util.regex.Pattern;

/** The document's face, and those rules of the language that can be looked at from outside. */
public final class LanguageTest {
    private static final Check check = new Check("LanguageTest");
    private static final String SOURCE = "src/main/java/PloughDepot.java";
    private static final String[] FACE = {
        "crossings(int)", "street(int,int,int,boolean)", "oneWay(int,boolean)", "shut(int,boolean)", "sides(int,int)", "told(int,int)",
        "way(int,int)", "wayAt(int,int,int)", "gauge(int,boolean)", "row(int,int)", "lose(int)", "reading(int,int,int)", "none(int,int,int)",
        "read(int,int)", "copy(int,int,int,int,int)", "copies(int,int,int)", "snow(int)", "melt(int,int)", "plough(int,int)",
        "pair(int,int,int)", "out(int)", "asks(int,int,int)", "salt(int,int)", "odd(int)", "least(int)", "round()", "at(int,int)",
        "length(int)", "partner(int)", "split()", "part(int,int)", "go(int,int)", "looks()", "text()", "sign(int)", "digest()", "undo()",
        "findings(int)", "status()", "trace()", "count(int)"};
    private static final String[] CONSTANTS = {"NONE", "BAD", "FULL", "NULL", "INDEX", "CAST", "SIZE", "NO", "DEEP"};
    /** Rules 4, 5, 6, 10 and 13, as far as a word shows that they are broken. */
    private static final String[] NEVER = {
        "\\bthrows?\\b", "\\btry\\b", "\\bcatch\\b", "\\bfinally\\b", "\\bsynchronized\\b", "\\bassert\\b", "\\bpackage\\b", "\\)\\s*->", "::",
        "\\bstatic\\s*\\{", "\\bpublic static (?!final)", "\\bMath\\.\\w*Exact\\b", "\\bSystem\\.(?!arraycopy)", "\\bArrays\\.(?!fill|copyOf)",
        "\\bimport (?!java\\.util\\.(Arrays|ArrayList|List|Iterator);)", "\\bfloat \\w+ = [^;]*%", "\"[^\"]*\"\\s*\\+", "\\+\\s*\"",
        "\\bString\\.\\w", "\\bprintln?\\b", "\\bThread\\b", "\\bRandom\\b"};
    private static final int MOST_ARGUMENTS = 7, MOST_LINES = 60, MOST_CLASSES = 12, MOST_FIELDS = 20;

    public static void main(String[] args) throws IOException {
        face();
        constants();
        namesOfMethods();
        classes();
        source(withoutComments(Files.readString(Path.of(SOURCE))));
        check.end();
    }

    private static void face() {
        Set<String> due = new TreeSet<>(Arrays.asList(FACE));
        Set<String> is = new TreeSet<>();
        for (Method m : PloughDepot.class.getDeclaredMethods()) {
            if (Modifier.isPrivate(m.getModifiers())) continue;
            check.holds(m.getName() + " is public and answers an int", Modifier.isPublic(m.getModifiers()) && m.getReturnType() == int.class);
            List<String> types = new ArrayList<>();
            for (Class<?> type : m.getParameterTypes()) types.add(type.getName());
            is.add(m.getName() + "(" + String.join(",", types) + ")");
        }
        check.holds("the methods are those of the document: " + is, is.equals(due));
        check.due("constructors", PloughDepot.class.getDeclaredConstructors().length, 1);
        check.due("constructors that are public", PloughDepot.class.getConstructors().length, 1);
        check.due("arguments of the constructor", PloughDepot.class.getConstructors()[0].getParameterCount(), 0);
        check.holds("the class is public and final", Modifier.isPublic(PloughDepot.class.getModifiers()) && Modifier.isFinal(PloughDepot.class.getModifiers()));
    }

    private static void constants() {
        Set<String> due = new TreeSet<>(Arrays.asList(CONSTANTS));
        Set<String> is = new TreeSet<>();
        for (Field f : PloughDepot.class.getDeclaredFields()) {
            if (!Modifier.isPrivate(f.getModifiers())) is.add(f.getName());
        }
        check.holds("the constants are those of the document: " + is, is.equals(due));
        int[] values = {PloughDepot.NONE, PloughDepot.BAD, PloughDepot.FULL, PloughDepot.NULL, PloughDepot.INDEX, PloughDepot.CAST, PloughDepot.SIZE,
            PloughDepot.NO, PloughDepot.DEEP};
        for (int i = 0; i < values.length; i++) check.due(CONSTANTS[i], values[i], -1 - i);
    }

    private static void namesOfMethods() {
        Set<String> face = new TreeSet<>();
        for (String f : FACE) face.add(f.substring(0, f.indexOf('(')));
        for (Method m : PloughDepot.class.getDeclaredMethods()) {
            check.holds(m + " takes seven arguments at most", m.getParameterCount() <= MOST_ARGUMENTS);
            check.holds(m + " bears no public name", !Modifier.isPrivate(m.getModifiers()) || !face.contains(m.getName()));
        }
        for (Class<?> c : PloughDepot.class.getDeclaredClasses()) {
            for (Method m : c.getDeclaredMethods()) {
                check.holds(m + " takes seven arguments at most", m.getParameterCount() <= MOST_ARGUMENTS);
                check.holds(m + " bears no public name", !Modifier.isPrivate(m.getModifiers()) || !face.contains(m.getName()));
            }
        }
    }

    private static void classes() {
        List<Class<?>> all = new ArrayList<>(Arrays.asList(PloughDepot.class.getDeclaredClasses()));
        check.holds("twelve classes at most", all.size() + 1 <= MOST_CLASSES);
        for (Class<?> c : all) {
            boolean isSeen = Modifier.isPublic(c.getModifiers()) || Modifier.isProtected(c.getModifiers());
            check.holds(c + " is static, and private or of the package", !isSeen && Modifier.isStatic(c.getModifiers()));
        }
        all.add(PloughDepot.class);
        for (Class<?> c : all) {
            int fields = 0;
            for (Field f : c.getDeclaredFields()) {
                boolean isStatic = Modifier.isStatic(f.getModifiers());
                fields += isStatic ? 0 : 1;
                check.holds(f + " is no static state", !isStatic || Modifier.isFinal(f.getModifiers()));
            }
            check.holds(c + " has twenty fields at most", fields <= MOST_FIELDS);
        }
    }

    private static String withoutComments(String text) {
        return text.replaceAll("(?s)/\\*.*?\\*/", "").replaceAll("//[^\n]*", "");
    }

    private static void source(String code) {
        for (String never : NEVER) {
            Matcher m = Pattern.compile(never).matcher(code);
            check.holds("the source has no " + never, !m.find());
        }
        methodsAreShort(code);
    }

    /** A method is what stands in the braces behind a list of arguments, if no word of the language stands ahead of that. */
    private static void methodsAreShort(String code) {
        Pattern begin = Pattern.compile("(\\w+)\\s*\\([^()]*\\)\\s*\\{");
        Set<String> words = Set.of("if", "for", "while", "switch");
        Matcher m = begin.matcher(code);
        int methods = 0;
        while (m.find()) {
            if (words.contains(m.group(1))) continue;
            methods++;
            check.holds("sixty lines at most: " + m.group(1), linesOfBlock(code, m.end() - 1) <= MOST_LINES);
        }
        check.holds("the methods are found", methods > FACE.length);
    }

    private static int linesOfBlock(String code, int brace) {
        int open = 0;
        int lines = 1;
        for (int i = brace; i < code.length(); i++) {
            char c = code.charAt(i);
            open += c == '{' ? 1 : c == '}' ? -1 : 0;
            lines += c == '\n' ? 1 : 0;
            if (open == 0) break;
        }
        return lines;
    }
}
