import java.lang.reflect.Method;
import java.lang.reflect.Modifier;
import java.nio.file.Files;
import java.nio.file.Path;
import java.util.Set;
import java.util.TreeSet;
import java.util.regex.Matcher;
import java.util.regex.Pattern;

/** README.md: it tells of every call, its examples answer what it says, and it names the command that runs the tests. */
public final class ReadmeTest {
    private static final Pattern ROW = Pattern.compile("(?m)^\\| `(\\w+)\\(([^)]*)\\)` \\| (.*) \\| (.*) \\|$");
    private static final Pattern EXAMPLE = Pattern.compile("(?s)```java\n(.*?)```");
    private static final Pattern TOLD = Pattern.compile("\"([^\"]*)\"\\.toCharArray\\(\\)");
    private static final Pattern CALL = Pattern.compile("x\\.(\\w+)\\(([-\\d, ]*)\\); +// (-?\\d+|BAD|STATE|FULL|NONE)\\b.*");

    public static void main(String[] args) throws Exception {
        String page = Files.readString(Path.of("README.md"));
        everyCallHasItsRow(page);
        examplesAnswerWhatIsSaid(page);
        Due.due("the command that runs the tests", page.contains("\n.ci/run\n") ? 1 : 0, 1);
        Due.finish();
    }

    private static void everyCallHasItsRow(String page) {
        Set<String> face = new TreeSet<>();
        for (Method m : SpireLean.class.getDeclaredMethods()) {
            if (Modifier.isPublic(m.getModifiers())) {
                face.add(m.getName() + " of " + m.getParameterCount());
            }
        }
        Matcher row = ROW.matcher(page);
        Set<String> rows = new TreeSet<>();
        while (row.find()) {
            String call = row.group(1) + " of " + (row.group(2).isEmpty() ? 0 : row.group(2).split(", ").length);
            Due.due("a row of its own: " + call, rows.add(call) ? 1 : 0, 1);
            Due.due("is a call of the class: " + call, face.contains(call) ? 1 : 0, 1);
            Due.due("says what is answered: " + call, row.group(3).isBlank() ? 1 : 0, 0);
        }
        for (String call : face) {
            Due.due("has a row: " + call, rows.contains(call) ? 1 : 0, 1);
        }
    }

    /** Each example begins with an object of its own. */
    private static void examplesAnswerWhatIsSaid(String page) throws Exception {
        Matcher example = EXAMPLE.matcher(page);
        int calls = 0;
        while (example.find()) {
            SpireLean x = new SpireLean();
            for (String line : example.group(1).split("\n")) {
                Matcher told = TOLD.matcher(line);
                if (told.find()) {
                    Due.feed(x, told.group(1));
                }
                Matcher call = CALL.matcher(line.trim());
                if (call.matches()) {
                    Due.due("README: " + line.trim(), answer(x, call.group(1), call.group(2)), number(call.group(3)));
                    calls++;
                }
            }
        }
        Due.due("examples with an answer", calls >= 10 ? 1 : 0, 1);
    }

    private static long answer(SpireLean x, String name, String list) throws Exception {
        String[] parts = list.isBlank() ? new String[0] : list.split(", *");
        Class<?>[] types = new Class<?>[parts.length];
        Object[] values = new Object[parts.length];
        for (int i = 0; i < parts.length; i++) {
            types[i] = int.class;
            values[i] = Integer.valueOf(parts[i].trim());
        }
        return ((Number) SpireLean.class.getMethod(name, types).invoke(x, values)).longValue();
    }

    private static long number(String said) {
        switch (said) {
            case "BAD": return SpireLean.BAD;
            case "STATE": return SpireLean.STATE;
            case "FULL": return SpireLean.FULL;
            case "NONE": return SpireLean.NONE;
            default: return Long.parseLong(said);
        }
    }
}
