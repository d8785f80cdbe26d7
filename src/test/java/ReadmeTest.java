import java.io.IOException;
import java.lang.reflect.Method;
import java.lang.reflect.Modifier;
import java.nio.file.Files;
import java.nio.file.Path;
import java.util.Map;
import java.util.TreeMap;
import java.util.TreeSet;
import java.util.regex.MatchResult;
import java.util.regex.Matcher;
import java.util.regex.Pattern;

/**
 * README.md: its example answers as it says, and its table has just the calls of the face. To be run
 * in the project's folder.
 */
public final class ReadmeTest {
    private static final Pattern EXAMPLE = Pattern.compile("(?s)```java\n(.*?)```");
    private static final Pattern LINE =
            Pattern.compile("(?:int (\\w+) = )?cellar\\.(\\w+\\([^)]*\\)); *// ((?:throws )?[\\w-]+).*");
    private static final Pattern TABLE_ROW = Pattern.compile("(?m)^\\| `(\\w+)\\(([^)]*)\\)` \\|[^|]*\\|([^|]*)\\|$");

    public static void main(String[] args) throws IOException {
        String text = Files.readString(Path.of("README.md"));
        runExample(text);
        compareTable(text);
        Script.end("ReadmeTest");
    }

    private static void runExample(String text) {
        Matcher example = EXAMPLE.matcher(text);
        Script.due("README.md has an example", String.valueOf(example.find()), "true");
        UndoCellar cellar = new UndoCellar();
        Map<String, String> variables = new TreeMap<String, String>();
        for (String line : example.group(1).split("\n")) {
            if (line.isBlank() || line.equals("UndoCellar cellar = new UndoCellar();")) {
                continue;
            }
            Matcher matcher = LINE.matcher(line);
            Script.due("README.md, a line of the example: " + line, String.valueOf(matcher.matches()), "true");
            String call = matcher.group(2);
            for (Map.Entry<String, String> variable : variables.entrySet()) {
                call = call.replaceAll("\\b" + variable.getKey() + "\\b", variable.getValue());
            }
            Script.due("README.md, " + line, Script.answer(cellar, call), matcher.group(3));
            if (matcher.group(1) != null) {
                variables.put(matcher.group(1), matcher.group(3));
            }
        }
    }

    private static void compareTable(String text) {
        TreeSet<String> told = new TreeSet<String>();
        for (MatchResult row : TABLE_ROW.matcher(text).results().toList()) {
            int arguments = row.group(2).isBlank() ? 0 : row.group(2).split(",").length;
            told.add(row.group(1) + " " + arguments + " " + row.group(3).replaceAll("[`\\s]", ""));
        }
        TreeSet<String> there = new TreeSet<String>();
        for (Method method : UndoCellar.class.getDeclaredMethods()) {
            if (Modifier.isPublic(method.getModifiers())) {
                StringBuilder thrown = new StringBuilder();
                for (Class<?> one : method.getExceptionTypes()) {
                    thrown.append(thrown.length() == 0 ? "" : ",").append(one.getSimpleName());
                }
                there.add(method.getName() + " " + method.getParameterCount() + " " + thrown);
            }
        }
        Script.due("README.md, the table of calls", told.toString(), there.toString());
    }
}
