import java.io.IOException;
import java.lang.reflect.Constructor;
import java.lang.reflect.Field;
import java.lang.reflect.Method;
import java.lang.reflect.Modifier;
import java.nio.file.Files;
import java.nio.file.Path;
import java.util.Set;
import java.util.TreeSet;
import java.util.regex.Matcher;
import java.util.regex.Pattern;

/**
 * The rules of ../shared/LANGUAGE.md that can be seen in the text or by reflection; a landing outside
 * them is sent back. To be run in the project's folder.
 */
public final class LanguageTest {
    private static final Path SOURCE = Path.of("src", "main", "java", "UndoCellar.java");
    private static final Set<String> IMPORTS = Set.of("java.util.ArrayList", "java.util.List", "java.util.Arrays",
            "java.util.Iterator", "java.util.NoSuchElementException");
    private static final Set<String> THROWN = Set.of("IllegalStateException", "IllegalArgumentException",
            "IndexOutOfBoundsException", "NoSuchElementException");
    private static final Pattern METHOD = Pattern.compile(
            "(?ms)^( {4}| {8})(?:private|public) (?!static final class)[^;={]*?\\{$.*?^\\1\\}$");
    /** What the rules forbid, and what the class has done without. */
    private static final String[] FORBIDDEN = {
        "\\bpackage\\b", "->", "::", "\\bfinally\\b", "\\bsynchronized\\b", "\\bassert\\b", "\\bcatch\\b",
        "\\btry\\b", "\\bprotected\\b", "\\bvar\\b", "\\bstatic \\{", "\\bvolatile\\b", "\\bnative\\b", "Exact\\(",
        "\\bSystem\\.(?!arraycopy)", "\\bThread\\b", "\\bRandom\\b", "\\bhashCode\\b", "\\bequals\\(Object",
        "\\btoString\\(\\)\\s*\\{", "\\bwhile \\(true\\)", "\\bfor \\(;;\\)", "@\\w+",
    };

    public static void main(String[] args) throws IOException {
        String text = Files.readString(SOURCE);
        String code = withoutCommentsAndTexts(text);
        need("rule 4: signs 1 to 127 alone", text.chars().allMatch(c -> c >= 1 && c <= 127));
        Script.due("rule 4: imports outside the library that is listed",
                outside(IMPORTS, code, "import (?:static )?([\\w.*]+);"), "[]");
        Script.due("rule 6: thrown, but not named by the document", outside(THROWN, code, "throw (?:new )?(\\w+)"), "[]");
        for (String forbidden : FORBIDDEN) {
            need("forbidden: " + forbidden, !Pattern.compile(forbidden).matcher(code).find());
        }
        need("rule 11: methods of at most sixty lines", longestMethod(text) <= 60);
        lookInto(UndoCellar.class);
        Class<?>[] inside = UndoCellar.class.getDeclaredClasses();
        need("rule 11: at most twelve classes", inside.length < 12);
        for (Class<?> nested : inside) {
            lookInto(nested);
            int modifiers = nested.getModifiers();
            need("rule 1: a static class inside: " + nested.getName(), Modifier.isStatic(modifiers));
            need("rule 1: no public or protected class inside: " + nested.getName(),
                    !Modifier.isPublic(modifiers) && !Modifier.isProtected(modifiers));
            lookIntoMembers(nested);
        }
        Script.end("LanguageTest");
    }

    private static void lookInto(Class<?> one) {
        int ownFields = 0;
        for (Field field : one.getDeclaredFields()) {
            boolean isStatic = Modifier.isStatic(field.getModifiers());
            ownFields += isStatic ? 0 : 1;
            need("rule 5: a static field is final: " + field, !isStatic || Modifier.isFinal(field.getModifiers()));
        }
        need("rule 11: at most some twenty fields: " + one.getName(), ownFields <= 20);
        for (Method method : one.getDeclaredMethods()) {
            need("rule 11: at most seven parameters: " + method, method.getParameterCount() <= 7);
        }
    }

    private static void lookIntoMembers(Class<?> nested) {
        for (Field field : nested.getDeclaredFields()) {
            need("rule 1: private: " + field, Modifier.isPrivate(field.getModifiers()));
        }
        for (Constructor<?> constructor : nested.getDeclaredConstructors()) {
            need("rule 1: private: " + constructor, Modifier.isPrivate(constructor.getModifiers()));
        }
        Set<String> face = new TreeSet<String>();
        for (Method method : UndoCellar.class.getMethods()) {
            face.add(method.getName());
        }
        for (Method method : nested.getDeclaredMethods()) {
            need("rule 1: private: " + method, Modifier.isPrivate(method.getModifiers()));
            need("rule 1: no name of a public one: " + method, !face.contains(method.getName()));
        }
    }

    /** A method begins with a "{" at its line's end and ends with a "}" as far in as its first line. */
    private static int longestMethod(String text) {
        int longest = 0;
        Matcher matcher = METHOD.matcher(text);
        while (matcher.find()) {
            longest = Math.max(longest, matcher.group().split("\n").length);
        }
        need("methods are found in the text", longest > 1);
        return longest;
    }

    private static void need(String name, boolean holds) {
        Script.due(name, String.valueOf(holds), "true");
    }

    private static String withoutCommentsAndTexts(String text) {
        String noTexts = text.replaceAll("\"(\\\\.|[^\"\\\\\n])*\"", "\"\"");
        return noTexts.replaceAll("(?s)/\\*.*?\\*/", "").replaceAll("//[^\n]*", "");
    }

    private static String outside(Set<String> allowed, String code, String pattern) {
        TreeSet<String> found = new TreeSet<String>();
        Matcher matcher = Pattern.compile(pattern).matcher(code);
        while (matcher.find()) {
            found.add(matcher.group(1));
        }
        found.removeAll(allowed);
        return found.toString();
    }
}
