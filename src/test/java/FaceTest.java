import java.io.IOException;
import java.lang.reflect.Constructor;
import java.lang.reflect.Field;
import java.lang.reflect.Method;
import java.lang.reflect.Modifier;
import java.nio.file.Files;
import java.nio.file.Path;
import java.util.Set;
import java.util.TreeSet;
import java.util.regex.Matcher;
import java.util.regex.Pattern;

/** The face of the class is the document's and nothing more, and its file keeps to what LANGUAGE.md leaves. */
public final class FaceTest {
    private static final String[] FACE = {
        "int feed(int, int, int, int, int)", "boolean end(int)",
        "int person(int, int) A U", "int rule() A U", "int way() A U", "int fault()",
        "int thing(int, int, int) A U", "int look(int, int) I N", "boolean needs(int, int, int, int, boolean) I A",
        "int note(int, int) I A U", "int torn()", "boolean can(int, int, boolean) I", "int fewest(int, boolean) I",
        "int earliest(int, int, boolean, int) I", "int may(int, int, boolean, int) I A", "int shut(int) I",
        "int opens(int, int) I", "int trap(int, int, int) I A U", "int story(int, int, int) A U",
        "int night(int, int, int, int, int) I A U", "int odds(int) I", "int oddsBy(int, int) I A",
        "long factor(int, int) I", "long says(int) I", "int with(int, int) I N", "void knew(int) A",
        "int told(int, int, int) I A U", "int knows(int) A", "int whence(int, boolean) A",
        "int knot(int, int, int, int) A U", "void rope(int) A", "int out(int, boolean)", "int first(int)",
        "int tale(int, int, int) A", "int cold(int, int, int) A", "void image()", "boolean back()", "int count(int)"};

    private static final String[] FORBIDDEN = {"->", "::", "\\btry\\b", "\\bcatch\\b", "\\bfinally\\b",
        "\\bsynchronized\\b", "\\bassert\\b", "\\bvar\\b", "System\\.(?!arraycopy)", "\\bThread\\b", "\\bRandom\\b",
        "Exact\\(", "\\bObject\\b", "\\bstatic \\{", "\\bnew (HashMap|HashSet|TreeMap)\\b", "String\\.", "\" \\+|\\+ \"",
        "\\.(hashCode|toString|getMessage)\\("};

    private static int wrong;

    private static void check(boolean holds, String what) {
        if (!holds) {
            wrong++;
            System.out.println(what);
        }
    }

    private static String letter(Class<?> exception) {
        switch (exception.getSimpleName()) {
            case "IllegalArgumentException":
                return "A";
            case "UnsupportedOperationException":
                return "U";
            case "IndexOutOfBoundsException":
                return "I";
            case "NoSuchElementException":
                return "N";
            default:
                return exception.getName();
        }
    }

    private static String written(Method m) {
        StringBuilder b = new StringBuilder(m.getReturnType() + " " + m.getName() + "(");
        for (int k = 0; k < m.getParameterCount(); k++) {
            b.append(k == 0 ? "" : ", ").append(m.getParameterTypes()[k]);
        }
        b.append(')');
        for (Class<?> e : m.getExceptionTypes()) {
            b.append(' ').append(letter(e));
        }
        return b.toString();
    }

    private static void checkFace() {
        Class<?> of = DarkSitting.class;
        check(Modifier.isPublic(of.getModifiers()) && Modifier.isFinal(of.getModifiers()), "not public and final");
        Set<String> there = new TreeSet<>();
        Set<String> open = new TreeSet<>();
        for (Method m : of.getDeclaredMethods()) {
            if (Modifier.isPublic(m.getModifiers()) && !Modifier.isStatic(m.getModifiers())) {
                there.add(written(m));
                open.add(m.getName());
            } else {
                check(Modifier.isPrivate(m.getModifiers()), m + " is not private");
            }
        }
        check(there.equals(new TreeSet<>(Set.of(FACE))), "the face is another one: " + there);
        for (Method m : of.getDeclaredMethods()) {
            check(!Modifier.isPrivate(m.getModifiers()) || !open.contains(m.getName()), m + " bears a public name");
        }
        for (Field f : of.getDeclaredFields()) {
            check(Modifier.isPrivate(f.getModifiers()) != f.getName().equals("NONE"), f + " is seen, or is not");
            check(!Modifier.isStatic(f.getModifiers()) || Modifier.isFinal(f.getModifiers()), f + " is not final");
        }
        Constructor<?>[] made = of.getDeclaredConstructors();
        check(made.length == 1 && made[0].getParameterCount() == 0 && Modifier.isPublic(made[0].getModifiers()),
                "another constructor");
        check(of.getDeclaredClasses().length <= 11, "too many classes");
        for (Class<?> inside : of.getDeclaredClasses()) {
            check(Modifier.isStatic(inside.getModifiers()) && !Modifier.isPublic(inside.getModifiers()),
                    inside + " is not static, or public");
            for (Method m : inside.getDeclaredMethods()) {
                check(m.getParameterCount() <= 7, m + " takes too many");
                check(!open.contains(m.getName()), m + " bears a public name");
            }
        }
    }

    private static void checkFile() throws IOException {
        String source = Files.readString(Path.of("src/main/java/DarkSitting.java"));
        for (int k = 0; k < source.length(); k++) {
            check(source.charAt(k) < 128, "a sign beyond 127 at " + k);
        }
        String code = source.replaceAll("/\\*[\\s\\S]*?\\*/", "").replaceAll("//[^\n]*", "");
        for (String pattern : FORBIDDEN) {
            Matcher m = Pattern.compile(pattern).matcher(code);
            check(!m.find(), "the file has " + pattern);
        }
        check(code.split("import ").length == 3, "other imports");
        int begun = -1;
        String[] lines = source.split("\n");
        for (int k = 0; k < lines.length; k++) {
            if (lines[k].matches(" {4}( {4})?[a-z].*\\{") && !lines[k].contains(" class ")) {
                begun = k;
            } else if (lines[k].matches(" {4}( {4})?\\}") && begun >= 0) {
                check(k - begun < 60, "a long method at line " + begun);
                begun = -1;
            }
        }
    }

    public static void main(String[] args) throws IOException {
        checkFace();
        checkFile();
        System.out.println(wrong == 0 ? "the face and the file are as they should be" : wrong + " things are not as they should be");
        if (wrong != 0) {
            System.exit(1);
        }
    }
}
