import java.lang.reflect.Method;
import java.lang.reflect.Modifier;
import java.nio.file.Files;
import java.nio.file.Path;
import java.util.regex.Matcher;
import java.util.regex.Pattern;

/** README.md against the class: its example, its book, the calls that it names. */
public final class ReadmeRuns extends Desk {
    private static final Pattern CALL = Pattern.compile("^x\\.(\\w+)\\(([^)]*)\\); +// (-?\\d+)(?!\\d)");

    public static void main(String[] args) throws Exception {
        String page = Files.readString(Path.of("README.md"));
        exampleAnswersWhatItSays(block(page, "java"));
        bookIsTaken(block(page, "text"));
        everyCallIsNamed(page);
        finish();
    }

    private static String block(String page, String language) {
        Matcher m = Pattern.compile("(?s)```" + language + "\n(.*?)```").matcher(page);
        return m.find() ? m.group(1) : "";
    }

    private static void exampleAnswersWhatItSays(String example) throws Exception {
        at("README.md's example");
        WeekFoot x = new WeekFoot();
        int calls = 0;
        int told = 0;
        for (String line : example.split("\n")) {
            calls += line.startsWith("x.") ? 1 : 0;
            Matcher m = CALL.matcher(line);
            if (m.find()) {
                told++;
                due(line, answer(x, m.group(1), m.group(2)), Long.parseLong(m.group(3)));
            }
        }
        due("lines whose answer is told", told, calls);
        due("whether there is an example", calls > 0 ? 1 : 0, 1);
    }

    private static long answer(WeekFoot x, String name, String numbers) throws Exception {
        String[] each = numbers.isEmpty() ? new String[0] : numbers.split(", ");
        Object[] values = new Object[each.length];
        for (int i = 0; i < each.length; i++) {
            values[i] = Integer.parseInt(each[i]);
        }
        for (Method m : WeekFoot.class.getMethods()) {
            if (m.getName().equals(name)) {
                return ((Number) m.invoke(x, values)).longValue();
            }
        }
        throw new IllegalStateException("there is no call " + name);
    }

    private static void bookIsTaken(String text) {
        at("README.md's book");
        String row = text.strip().replace('\n', ' ');
        dueTaken(new WeekFoot(), row, row.split(";").length);
        dueFault(new WeekFoot(), text.strip(), text.indexOf('\n'));
    }

    private static void everyCallIsNamed(String page) {
        at("README.md names every call");
        for (Method m : WeekFoot.class.getDeclaredMethods()) {
            if (Modifier.isPublic(m.getModifiers())) {
                due(m.getName(), page.contains("`" + m.getName() + "`") ? 1 : 0, 1);
            }
        }
    }
}
