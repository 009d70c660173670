import java.io.IOException;
import java.lang.reflect.Constructor;
import java.lang.reflect.Field;
import java.lang.reflect.Method;
import java.lang.reflect.Modifier;
import java.nio.file.Files;
import java.nio.file.Path;
import java.util.Arrays;
import java.util.Set;
import java.util.TreeSet;
import java.util.regex.Matcher;
import java.util.regex.Pattern;
import java.util.stream.Collectors;

/** The public face as the document prints it, and the rules of LANGUAGE.md that a text can show. */
public final class FaceTest {
    private static final Due DUE = new Due();
    private static final String[] FACE = {
        "int feed(int)", "int end(int)", "int text()", "int fault()", "int rule(int)",
        "int thing(int, int)", "int guest(int, int)", "int ban(int, int)", "int alter(int, int, int)",
        "int hire(int, int, int)", "int forbid(int, int)", "int lift(int)", "int undo(int)",
        "int go(int)", "int ahead(int)", "int next(int)", "int ring(int)", "int rings(int)",
        "int agree(int)", "int before(int, int)", "int gardens()", "int clash()",
        "int way(int, int, int)", "int peace(int, int)", "int amend(int)", "int strict(int)",
        "long luck(int, int)", "long calm(int, int)", "long mean(int, int)",
        "int see(int, int, boolean)", "int forget(int)", "int fits(int)", "int look(int)",
        "int drift(int, int, int)", "int keep(int)", "int back(int)", "int sheet(int, int, int)",
        "int lay(int, int, int)", "int read(int, int, int, int)", "int torn()", "int count(int)"};

    public static void main(String[] args) throws IOException, IllegalAccessException {
        methods();
        constants();
        classes();
        source();
        DUE.finish();
    }

    private static String told(Method m) {
        return m.getReturnType().getName() + " " + m.getName() + "(" + Arrays.stream(m.getParameterTypes())
            .map(Class::getName).collect(Collectors.joining(", ")) + ")";
    }

    private static void methods() {
        DUE.about("the face");
        Set<String> open = new TreeSet<>();
        Set<String> names = new TreeSet<>();
        for (Method m : FloorYears.class.getDeclaredMethods()) {
            if (!Modifier.isPrivate(m.getModifiers())) {
                open.add(told(m));
                names.add(m.getName());
                DUE.holds(m + " is public and no more", m.getModifiers() == Modifier.PUBLIC);
            }
        }
        Set<String> due = new TreeSet<>(Arrays.asList(FACE));
        DUE.holds("the methods are " + open, open.equals(due));
        for (Method m : FloorYears.class.getDeclaredMethods()) {
            DUE.holds(m + " bears no public name",
                !Modifier.isPrivate(m.getModifiers()) || !names.contains(m.getName()));
        }
        Constructor<?>[] made = FloorYears.class.getDeclaredConstructors();
        DUE.is("constructors", made.length, 1);
        DUE.is("its parameters", made[0].getParameterCount(), 0);
        DUE.holds("it is public", made[0].getModifiers() == Modifier.PUBLIC);
    }

    private static void constants() throws IllegalAccessException {
        Set<String> open = new TreeSet<>();
        for (Field f : FloorYears.class.getDeclaredFields()) {
            if (!Modifier.isPrivate(f.getModifiers())) {
                open.add(f.getName() + " " + Modifier.toString(f.getModifiers()) + " " + f.getInt(null));
            }
            if (Modifier.isStatic(f.getModifiers())) {
                DUE.holds(f + " is final", Modifier.isFinal(f.getModifiers()));
            }
        }
        DUE.holds("the constants are " + open, open.equals(Set.of("BAD public static final -1",
            "STATE public static final -2", "FULL public static final -3",
            "NONE public static final -4")));
    }

    private static void classes() {
        DUE.holds("public and final", FloorYears.class.getModifiers() == (Modifier.PUBLIC | Modifier.FINAL));
        Class<?>[] inside = FloorYears.class.getDeclaredClasses();
        DUE.holds("at most 12 classes", inside.length < 12);
        for (Class<?> c : inside) {
            int m = c.getModifiers();
            DUE.holds(c + " is static", Modifier.isStatic(m));
            DUE.holds(c + " is not open", !Modifier.isPublic(m) && !Modifier.isProtected(m));
            long fields = Arrays.stream(c.getDeclaredFields())
                .filter(f -> !Modifier.isStatic(f.getModifiers())).count();
            DUE.holds(c + " has few fields", fields <= 20);
            for (Method method : c.getDeclaredMethods()) {
                DUE.holds(method + " has few parameters", method.getParameterCount() <= 7);
            }
        }
    }

    private static void source() throws IOException {
        DUE.about("LANGUAGE.md");
        String text = Files.readString(Path.of("src/main/java/FloorYears.java"));
        String code = text.replaceAll("(?s)/\\*.*?\\*/", "").replaceAll("//[^\n]*", "")
            .replaceAll("\"[^\"\n]*\"", "\"\"").replaceAll("'[^'\n]*'", "' '");
        String[] ruledOut = {"throw", "try", "catch", "synchronized", "assert", "import", "package", "yield",
            "double", "float", "volatile", "transient", "native", "instanceof", "Object"};
        for (String word : ruledOut) {
            DUE.holds("no " + word, !Pattern.compile("\\b" + word + "\\b").matcher(code).find());
        }
        DUE.holds("no lambda", !code.contains("->"));
        DUE.holds("no method reference", !code.contains("::"));
        DUE.holds("no tabs", !text.contains("\t"));
        Set<String> library = new TreeSet<>();
        Matcher m = Pattern.compile("\\b(System|Math|Integer|Long|Arrays|String|List|Thread)\\.(\\w+)").matcher(code);
        while (m.find()) {
            library.add(m.group());
        }
        DUE.holds("the library used is " + library, Set.of("System.arraycopy", "Math.max", "Math.min",
            "Integer.bitCount", "Long.bitCount").containsAll(library));
        lengths(code);
    }

    /** Methods stay short: none has more than sixty lines between its head and its end. */
    private static void lengths(String code) {
        String[] rows = code.split("\n", -1);
        for (int i = 0; i < rows.length; i++) {
            Matcher head = Pattern.compile("^( {4}| {8})(?! )[\\w\\[\\] ]+ (\\w+)\\([^)]*\\) \\{$").matcher(rows[i]);
            if (head.find()) {
                int end = i;
                while (!rows[end].equals(head.group(1) + "}")) {
                    end++;
                }
                DUE.holds(head.group(2) + " is short", end - i <= 60);
            }
        }
    }
}
