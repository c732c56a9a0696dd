import java.lang.reflect.Field;
import java.lang.reflect.Method;
import java.lang.reflect.Modifier;
import java.nio.file.Files;
import java.nio.file.Path;
import java.util.Arrays;
import java.util.Set;
import java.util.TreeSet;
import java.util.regex.Matcher;
import java.util.regex.Pattern;

/** What LANGUAGE.md forbids and a look at the source or at the class can find; and the document's face. */
public final class LanguageTest {
    private static final String FACE = "int alter(III) int ask(II) int back(I) int bears(I) int bend(I) int brace() "
            + "int comes(I) int count(I) int draw(II) int drift(III) int end(I) int falls() int fault() int feed(I) "
            + "int forget(I) int hush(I) int keep(I) int kind(III) int kinds(I) int lay(III) long luck(IIII) "
            + "int lure(II) long mean(III) int need() int pulls(I) int put(III) int raze(I) int read(IIII) int rule(I) "
            + "int runs(II) int see(II) long share(III) int sheet(III) int site(IIII) int spots(II) int stiff(I) "
            + "int swap(I) int text() int torn() int turn() int years(I)";
    private static final String[] FORBIDDEN = {
        "\\bthrow\\b", "\\btry\\b", "\\bcatch\\b", "\\bsynchronized\\b", "\\bassert\\b", "->", "::", "\\bnew \\w+\\([^)]*\\) *\\{",
        "\\bpackage\\b", "\\bprotected\\b", "\\bstatic *\\{", "Exact\\(", "\\bfloat\\b", "\\bdouble\\b", "\\bRandom\\b",
        "\\bhashCode\\b", "\\btoString\\b", "\\bThread\\b", "\\bSystem\\.(?!arraycopy)", "\\bimport\\b(?! java\\.util\\.)"};

    public static void main(String[] args) throws Exception {
        String source = Files.readString(Path.of("src/main/java/SpireLean.java"));
        String code = source.replaceAll("(?s)/\\*.*?\\*/", "").replaceAll("//[^\n]*", "");
        for (String pattern : FORBIDDEN) {
            Matcher m = Pattern.compile(pattern).matcher(code);
            boolean found = m.find();
            Due.due("forbidden: " + pattern + (found ? " as " + m.group() : ""), found ? 1 : 0, 0);
        }
        face();
        innerClasses();
        methodLengths(source);
        Due.finish();
    }

    private static void face() {
        Set<String> found = new TreeSet<>();
        Set<String> publicNames = new TreeSet<>();
        for (Method m : SpireLean.class.getDeclaredMethods()) {
            if (Modifier.isPublic(m.getModifiers())) {
                found.add(m.getReturnType() + " " + m.getName() + "(" + "I".repeat(m.getParameterCount()) + ")");
                publicNames.add(m.getName());
            } else {
                Due.due("private: " + m, Modifier.isPrivate(m.getModifiers()) ? 1 : 0, 1);
            }
        }
        Set<String> due = new TreeSet<>();
        Matcher m = Pattern.compile("\\w+ \\w+\\(I*\\)").matcher(FACE);
        while (m.find()) {
            due.add(m.group());
        }
        Due.due("the face: " + found, found.equals(due) ? 1 : 0, 1);
        Due.due("methods", due.size(), 41);
        for (Method each : SpireLean.class.getDeclaredMethods()) {
            if (!Modifier.isPublic(each.getModifiers())) {
                Due.due("bears a public name: " + each, publicNames.contains(each.getName()) ? 1 : 0, 0);
            }
        }
        for (Field f : SpireLean.class.getDeclaredFields()) {
            boolean told = Arrays.asList("BAD", "STATE", "FULL", "NONE").contains(f.getName());
            Due.due("seen from outside: " + f, Modifier.isPrivate(f.getModifiers()) ? 0 : 1, told ? 1 : 0);
        }
        Due.due("final", Modifier.isFinal(SpireLean.class.getModifiers()) ? 1 : 0, 1);
        Due.due("constructors", SpireLean.class.getDeclaredConstructors().length, 1);
        Due.due("BAD", SpireLean.BAD, -1);
        Due.due("STATE", SpireLean.STATE, -2);
        Due.due("FULL", SpireLean.FULL, -3);
        Due.due("NONE", SpireLean.NONE, -4);
    }

    private static void innerClasses() {
        for (Class<?> c : SpireLean.class.getDeclaredClasses()) {
            Due.due("static: " + c, Modifier.isStatic(c.getModifiers()) ? 1 : 0, 1);
            for (Method m : c.getDeclaredMethods()) {
                boolean bearsPublicName = FACE.contains(" " + m.getName() + "(");
                Due.due("bears a public name: " + m, bearsPublicName ? 1 : 0, 0);
                Due.due("parameters of " + m, m.getParameterCount() <= 7 ? 1 : 0, 1);
            }
            fieldsOf(c);
        }
        fieldsOf(SpireLean.class);
        Due.due("classes", SpireLean.class.getDeclaredClasses().length < 12 ? 1 : 0, 1);
    }

    private static void fieldsOf(Class<?> c) {
        int own = 0;
        for (Field f : c.getDeclaredFields()) {
            if (Modifier.isStatic(f.getModifiers())) {
                Due.due("final: " + f, Modifier.isFinal(f.getModifiers()) ? 1 : 0, 1);
            } else {
                own++;
            }
        }
        Due.due("fields of " + c + ": " + own, own <= 20 ? 1 : 0, 1);
    }

    /** A method's body ends at the brace that stands as far in as its head. */
    private static void methodLengths(String source) {
        String[] lines = source.split("\n");
        for (int i = 0; i < lines.length; i++) {
            if (lines[i].matches(" +(public|private)[^=;]*\\) \\{")) {
                String close = lines[i].replaceAll("\\S.*", "") + "}";
                int end = i;
                while (end < lines.length && !lines[end].equals(close)) {
                    end++;
                }
                Due.due("lines of " + lines[i].trim() + " " + (end - i), end - i <= 60 ? 1 : 0, 1);
            }
        }
    }
}
