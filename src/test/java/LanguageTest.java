import java.io.IOException;
import java.lang.reflect.Constructor;
import java.lang.reflect.Field;
import java.lang.reflect.Method;
import java.lang.reflect.Modifier;
import java.nio.file.Files;
import java.nio.file.Path;
import java.util.HashSet;
import java.util.List;
import java.util.Set;
import java.util.regex.Matcher;
import java.util.regex.Pattern;

/**
 * The rules of LANGUAGE.md that can be told from the source's words and from the compiled classes.
 * The others (no index unlooked at, an end to each loop) are for a reader.
 */
public final class LanguageTest {
    private static final Path SOURCE = Path.of("src/main/java/MemberFinder.java");
    private static final int MOST_LINES = 60;
    private static final int MOST_PARAMETERS = 7;
    private static final int MOST_CLASSES = 12;
    private static final int MOST_FIELDS = 20;

    private static int wrong = 0;

    private static void due(boolean holds, int rule, String what) {
        if (!holds) {
            wrong++;
            System.out.println("rule " + rule + ": " + what);
        }
    }

    private static String withoutComments(String text) {
        return text.replaceAll("(?s)/\\*.*?\\*/", "").replaceAll("//[^\\n]*", "");
    }

    private static void refuseWords(String code, int rule, String... patterns) {
        for (String pattern : patterns) {
            Matcher m = Pattern.compile(pattern).matcher(code);
            due(!m.find(), rule, "the source has " + pattern);
        }
    }

    private static void words(String code) {
        refuseWords(code, 1, "\\bpackage\\b", "\\bprotected\\b");
        refuseWords(code, 2, "->", "::");
        // The program needs no library class at all, so none may come in unseen.
        refuseWords(code, 4, "\\bimport\\b", "\\bjava\\.", "\\bSystem\\b", "\\bThread\\b", "\\bMath\\b", "\"");
        refuseWords(code, 5, "\\bstatic\\s*\\{");
        refuseWords(code, 6, "\\bthrows?\\b", "\\btry\\b", "\\bcatch\\b", "\\bfinally\\b", "\\bsynchronized\\b",
                "\\bassert\\b", "\\b(equals|hashCode|toString)\\b");
    }

    /** A method begins at a line with a brace, at the depth of members, and ends where its brace is closed. */
    private static void lengths(String code) {
        int start = 0;
        List<String> lines = code.lines().toList();
        for (int i = 0; i < lines.size(); i++) {
            String line = lines.get(i);
            if (line.matches("( {4}| {8})\\S.*\\) \\{") && !line.matches(" *(if|for|while|switch)\\b.*")) {
                start = i;
            }
            if (line.matches("( {4}| {8})\\}")) {
                due(i - start < MOST_LINES, 11, "a long method: " + lines.get(start).trim());
            }
        }
    }

    private static void face(Class<?> c) {
        Set<String> open = new HashSet<>();
        for (Method m : c.getDeclaredMethods()) {
            if (Modifier.isPublic(m.getModifiers())) {
                open.add(m.getName());
            }
        }
        for (Method m : c.getDeclaredMethods()) {
            due(Modifier.isPublic(m.getModifiers()) || !open.contains(m.getName()), 1,
                    "a private method bears a public one's name: " + m);
        }
        for (Class<?> inner : c.getDeclaredClasses()) {
            int is = inner.getModifiers();
            due(Modifier.isStatic(is) && !Modifier.isPublic(is) && !Modifier.isProtected(is), 1,
                    "a class inside is not static, or shown: " + inner);
        }
    }

    private static void fields(Class<?> c) {
        int count = 0;
        for (Field f : c.getDeclaredFields()) {
            boolean isStatic = Modifier.isStatic(f.getModifiers());
            due(!isStatic || Modifier.isFinal(f.getModifiers()), 5, "a static field that isn't final: " + f);
            count += isStatic ? 0 : 1;
        }
        due(count <= MOST_FIELDS, 11, count + " fields in " + c);
    }

    private static void parameters(Class<?> c) {
        for (Method m : c.getDeclaredMethods()) {
            due(m.getParameterCount() <= MOST_PARAMETERS, 11, "many parameters: " + m);
        }
        for (Constructor<?> k : c.getDeclaredConstructors()) {
            due(k.getParameterCount() <= MOST_PARAMETERS, 11, "many parameters: " + k);
        }
    }

    public static void main(String[] args) throws IOException {
        String code = withoutComments(Files.readString(SOURCE));
        words(code);
        lengths(code);
        face(MemberFinder.class);
        fields(MemberFinder.class);
        parameters(MemberFinder.class);
        Class<?>[] inside = MemberFinder.class.getDeclaredClasses();
        due(inside.length < MOST_CLASSES, 11, inside.length + " classes inside");
        for (Class<?> c : inside) {
            fields(c);
            parameters(c);
        }
        System.out.println(wrong == 0 ? "the language is as due" : wrong + " breaches of the language");
        if (wrong != 0) {
            System.exit(1);
        }
    }
}
