import java.io.IOException;
import java.lang.reflect.Method;
import java.lang.reflect.Modifier;
import java.nio.file.Files;
import java.nio.file.Path;
import java.util.regex.Matcher;
import java.util.regex.Pattern;

/** README.md names every call, and its example answers as its comments say. */
public final class ReadmeTest {
    /** A row of the example: a call with numbers, and in the comment the answer ahead of ":". */
    private static final Pattern ROW = Pattern.compile("bar\\.(\\w+)\\(([-\\d, ]*)\\); +// (-?\\d+):.*");
    private static final Pattern TEXT = Pattern.compile("String text = \"([^\"]*)\";.*");

    private ReadmeTest() {
    }

    public static void main(String[] args) throws IOException, ReflectiveOperationException {
        String readme = Files.readString(Path.of("README.md"));
        namesEveryCall(readme);
        example(readme);
        Check.close("ReadmeTest");
    }

    private static void namesEveryCall(String readme) {
        Check.part("README.md");
        for (Method method : BarRoutine.class.getDeclaredMethods()) {
            if (Modifier.isPublic(method.getModifiers())) {
                Check.holds("it tells of " + method.getName() + "()", readme.contains("| `" + method.getName() + "("));
            }
        }
    }

    private static void example(String readme) throws ReflectiveOperationException {
        Check.part("README.md's example");
        BarRoutine bar = new BarRoutine();
        int begin = readme.indexOf("```java\n");
        int end = readme.indexOf("```\n", begin + 1);
        int rows = 0;
        for (String line : readme.substring(begin, end).split("\n")) {
            Matcher text = TEXT.matcher(line);
            if (text.matches()) {
                Check.write(bar, text.group(1));
            }
            Matcher row = ROW.matcher(line);
            if (row.matches()) {
                rows++;
                Check.due(line, answer(bar, row.group(1), row.group(2)), Integer.parseInt(row.group(3)));
            }
        }
        Check.due("rows with an answer", rows, 12);
    }

    private static int answer(BarRoutine bar, String name, String numbers) throws ReflectiveOperationException {
        String[] parts = numbers.isEmpty() ? new String[0] : numbers.split(", ");
        Class<?>[] types = new Class<?>[parts.length];
        Object[] values = new Object[parts.length];
        for (int i = 0; i < parts.length; i++) {
            types[i] = int.class;
            values[i] = Integer.valueOf(parts[i]);
        }
        return (Integer) BarRoutine.class.getMethod(name, types).invoke(bar, values);
    }
}
