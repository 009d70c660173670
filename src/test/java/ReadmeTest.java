import java.io.IOException;
import java.lang.reflect.Method;
import java.lang.reflect.Modifier;
import java.nio.file.DirectoryStream;
import java.nio.file.Files;
import java.nio.file.Path;
import java.util.regex.Matcher;
import java.util.regex.Pattern;

/** README.md tells the truth: the calls of its example answer as it says; it names every call and every test. */
public final class ReadmeTest {
    private static final Path PAGE = Path.of("README.md");
    private static final Path TESTS = Path.of("src/test/java");
    private static final Pattern TEXT = Pattern.compile("String text = \"([^\"]*)\";");
    private static final Pattern ROW = Pattern.compile("(?m)^x\\.(\\w+)\\(([^)]*)\\); *// *(-?\\d+)?");
    private static final Due DUE = new Due();

    public static void main(String[] args) throws IOException, ReflectiveOperationException {
        String page = Files.readString(PAGE);
        DUE.about("README.md");
        example(page);
        lines(page);
        everyCall(page);
        everyTest(page);
        DUE.finish();
    }

    private static void example(String page) throws ReflectiveOperationException {
        Matcher text = TEXT.matcher(page);
        DUE.holds("an example has a text", text.find());
        FloorYears x = new FloorYears();
        Due.feed(x, text.group(1));
        Matcher row = ROW.matcher(page);
        int rows = 0;
        while (row.find()) {
            rows++;
            DUE.holds(row.group() + " tells an answer", row.group(3) != null);
            DUE.is(row.group(), call(x, row.group(1), row.group(2)), Long.parseLong(row.group(3)));
        }
        DUE.holds("the example has some twenty rows, not " + rows, rows >= 20);
    }

    private static long call(FloorYears x, String name, String told) throws ReflectiveOperationException {
        Method method = method(name);
        String[] words = told.isEmpty() ? new String[0] : told.split(", ");
        Object[] with = new Object[words.length];
        for (int i = 0; i < words.length; i++) {
            boolean isBoolean = method.getParameterTypes()[i] == boolean.class;
            with[i] = isBoolean ? (Object) Boolean.valueOf(words[i]) : Integer.valueOf(words[i]);
        }
        return ((Number) method.invoke(x, with)).longValue();
    }

    private static Method method(String name) throws NoSuchMethodException {
        for (Method method : FloorYears.class.getDeclaredMethods()) {
            if (method.getName().equals(name)) {
                return method;
            }
        }
        throw new NoSuchMethodException(name);
    }

    /** The lines of the page's table make one text. */
    private static void lines(String page) {
        Matcher line = Pattern.compile("(?m)^\\| `([a-z 0-9]+;)` \\|").matcher(page);
        StringBuilder text = new StringBuilder();
        int lines = 0;
        while (line.find()) {
            text.append(line.group(1));
            lines++;
        }
        DUE.is("lines of the table", lines, 8);
        DUE.is("text() of them all", Due.tell(new FloorYears(), text.toString()), lines);
    }

    private static void everyCall(String page) {
        for (Method method : FloorYears.class.getDeclaredMethods()) {
            if (Modifier.isPublic(method.getModifiers())) {
                DUE.holds("names " + method.getName(), page.contains("`" + method.getName() + "`"));
            }
        }
    }

    private static void everyTest(String page) throws IOException {
        DUE.holds("names .ci/run", page.contains(".ci/run"));
        try (DirectoryStream<Path> tests = Files.newDirectoryStream(TESTS, "*Test.java")) {
            for (Path test : tests) {
                String name = test.getFileName().toString().replace(".java", "");
                DUE.holds("names " + name, page.contains("| `" + name + "` |"));
            }
        }
    }
}
