import java.lang.reflect.Field;
import java.lang.reflect.Method;
import java.lang.reflect.Modifier;
import java.nio.file.Files;
import java.nio.file.Path;
import java.util.ArrayList;
import java.util.Arrays;
import java.util.List;
import java.util.regex.Matcher;
import java.util.regex.Pattern;

/** Rules of LANGUAGE.md that can be seen in the source or by reflection; run from the project's folder. */
public final class LanguageTest {
    private static final Check check = new Check("LanguageTest");
    private static final String[] FORBIDDEN = {
        "\\bthrow\\b", "\\bthrows\\b", "\\btry\\b", "\\bcatch\\b", "\\bfinally\\b", "\\bsynchronized\\b",
        "\\bassert\\b", "\\bimport\\b", "\\bpackage\\b", "\\bprotected\\b", "\\bvolatile\\b", "\\btransient\\b",
        "\\bnative\\b", "->", "::", "Exact\\s*\\(", "\\bstatic\\s*\\{", "\\bvar\\b", "\\bThread\\b", "\\bObject\\b",
        "\\bSystem\\s*\\.\\s*(?!arraycopy)", "\\bhashCode\\b", "\\btoString\\b", "\\bwhile\\b",
        "\\b(int|long|short|byte|boolean)\\s*\\[\\]\\s*\\[\\]\\s*\\[\\]",
    };
    private static final int MOST_LINES = 60, MOST_PARAMETERS = 7, MOST_CLASSES = 12, MOST_FIELDS = 20;

    public static void main(String[] args) throws Exception {
        String source = Files.readString(Path.of("src/main/java/BarrelTaps.java"));
        String bare = withoutCommentsAndTexts(source);
        check.holds("a sign beyond 127 stands in the source", source.chars().allMatch(c -> c < 128));
        for (String pattern : FORBIDDEN) {
            Matcher m = Pattern.compile(pattern).matcher(bare);
            check.holds("'" + pattern + "' stands in the source", !m.find());
        }
        methodLengths(bare);
        List<Class<?>> classes = new ArrayList<>(Arrays.asList(BarrelTaps.class.getDeclaredClasses()));
        check.holds("too many classes", classes.size() < MOST_CLASSES);
        for (Class<?> c : classes) {
            check.holds(c + " is static and not public",
                Modifier.isStatic(c.getModifiers()) && !Modifier.isPublic(c.getModifiers()));
        }
        classes.add(BarrelTaps.class);
        for (Class<?> c : classes) {
            members(c);
        }
        check.end();
    }

    private static void members(Class<?> c) {
        int fields = 0;
        for (Field f : c.getDeclaredFields()) {
            boolean constant = Modifier.isStatic(f.getModifiers());
            check.holds(f + " is static, but not final", !constant || Modifier.isFinal(f.getModifiers()));
            fields += constant ? 0 : 1;
        }
        check.holds(c + " has too many fields", fields <= MOST_FIELDS);
        for (Method m : c.getDeclaredMethods()) {
            check.holds(m + " takes too much", m.getParameterCount() <= MOST_PARAMETERS);
        }
    }

    private static String withoutCommentsAndTexts(String source) {
        return source.replaceAll("(?s)/\\*.*?\\*/", "").replaceAll("//[^\n]*", "")
            .replaceAll("\"[^\"\n]*\"", "\"\"").replaceAll("'[^']'", "' '");
    }

    /** A method begins with a head that ends in ') {' and ends at a brace as deep as its head. */
    private static void methodLengths(String bare) {
        Pattern head = Pattern.compile("^( +)[A-Za-z][A-Za-z<>\\[\\] ]* ?[A-Za-z]+\\([^;]*\\) \\{$");
        String[] lines = bare.split("\n");
        int methods = 0;
        for (int k = 0; k < lines.length; k++) {
            Matcher m = head.matcher(lines[k]);
            if (!m.matches() || lines[k].trim().matches("(if|for|switch|else).*")) {
                continue;
            }
            methods++;
            int end = k;
            while (end < lines.length && !lines[end].equals(m.group(1) + "}")) {
                end++;
            }
            check.holds("too long: " + lines[k].trim(), end < lines.length && end - k + 1 <= MOST_LINES);
        }
        check.holds("methods were found: " + methods, methods > 60);
    }
}
