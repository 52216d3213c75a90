import java.io.File;
import java.io.IOException;
import java.lang.reflect.Method;
import java.lang.reflect.Modifier;
import java.nio.file.Files;
import java.nio.file.Path;
import java.util.regex.Matcher;
import java.util.regex.Pattern;

/** What README.md shows is what the class does. */
public final class ReadmeTest {
    private static final Due due = new Due("ReadmeTest");

    // A line of the example: a call, and the answer ahead of a colon, if the line tells one.
    private static final Pattern CALL = Pattern.compile("(?m)^bench\\.(\\w+)\\(([^)]*)\\);\\s*// (?:(-?\\d+):)?");

    public static void main(String[] args) throws IOException, ReflectiveOperationException {
        String text = Files.readString(Path.of("README.md"));
        theExampleAnswersAsItSays(text);
        everyCallIsNamed(text);
        everyTestIsNamed(text);
        due.end();
    }

    private static void theExampleAnswersAsItSays(String text) throws ReflectiveOperationException {
        ReadAhead bench = new ReadAhead();
        Matcher line = CALL.matcher(text);
        int answers = 0;
        while (line.find()) {
            int got = called(bench, line.group(1), line.group(2).split(", "));
            if (line.group(3) != null) {
                due.is(line.group(1) + "(" + line.group(2) + ")", got, Integer.parseInt(line.group(3)));
                answers++;
            }
        }
        due.yes("the example tells answers", answers > 0);
    }

    private static int called(ReadAhead bench, String name, String[] numbers) throws ReflectiveOperationException {
        Class<?>[] types = new Class<?>[numbers.length];
        Object[] values = new Object[numbers.length];
        for (int i = 0; i < numbers.length; i++) {
            types[i] = int.class;
            values[i] = Integer.valueOf(numbers[i]);
        }
        return (Integer) ReadAhead.class.getMethod(name, types).invoke(bench, values);
    }

    private static void everyCallIsNamed(String text) {
        for (Method m : ReadAhead.class.getDeclaredMethods()) {
            if (Modifier.isPublic(m.getModifiers())) {
                due.yes("a row of the table for " + m.getName(), text.contains("\n| `" + m.getName() + "("));
            }
        }
    }

    private static void everyTestIsNamed(String text) {
        String[] names = new File("src/test/java").list();
        due.yes("there are tests", names != null);
        if (names == null) {
            return;
        }
        for (String name : names) {
            if (name.endsWith("Test.java")) {
                String test = name.substring(0, name.length() - ".java".length());
                due.yes("a row of the table for " + test, text.contains("\n| `" + test + "` |"));
            }
        }
    }
}
