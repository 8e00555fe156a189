import java.lang.reflect.Method;
import java.nio.file.Files;
import java.nio.file.Path;
import java.util.regex.Matcher;
import java.util.regex.Pattern;

/** The calls that README.md shows answer what it says that they answer, and all of them are of this form. */
final class ReadmeTest {
    private static final Pattern CALL = Pattern.compile("rows\\.(\\w+)\\(([^)]*)\\); +// (-?\\w+)(: .+)?");
    private static final String MAKE = "FallRows rows = new FallRows();";
    private final Due due;
    private FallRows rows;
    private int calls;

    private ReadmeTest(Due due) {
        this.due = due;
    }

    /** A number as it is written, or a constant of the class. */
    private static long number(String text) throws ReflectiveOperationException {
        if (text.matches("[A-Z]+")) {
            return FallRows.class.getField(text).getInt(null);
        }
        return Long.decode(text.endsWith("L") ? text.substring(0, text.length() - 1) : text);
    }

    private static Object argument(Class<?> kind, String text) throws ReflectiveOperationException {
        if (kind == boolean.class) {
            return Boolean.valueOf(text);
        }
        long value = number(text);
        return kind == long.class ? (Object) value : (Object) Math.toIntExact(value);
    }

    private static Method named(String name) {
        for (Method method : FallRows.class.getMethods()) {
            if (method.getDeclaringClass() == FallRows.class && method.getName().equals(name)) {
                return method;
            }
        }
        throw new IllegalArgumentException("README.md calls " + name + ", which the class has not");
    }

    private void call(String line, String name, String told, String answer) throws ReflectiveOperationException {
        Method method = named(name);
        Class<?>[] kinds = method.getParameterTypes();
        String[] texts = told.isEmpty() ? new String[0] : told.split(", ");
        due.is("arguments in " + line, texts.length, kinds.length);
        Object[] arguments = new Object[kinds.length];
        for (int i = 0; i < kinds.length; i++) {
            arguments[i] = argument(kinds[i], texts[i]);
        }
        due.is(line, (Integer) method.invoke(rows, arguments), number(answer));
        calls++;
    }

    private void line(String line) throws ReflectiveOperationException {
        Matcher parts = CALL.matcher(line);
        if (line.equals(MAKE)) {
            rows = new FallRows();
        } else if (parts.matches()) {
            call(line, parts.group(1), parts.group(2), parts.group(3));
        } else {
            due.holds("a call with its answer: " + line, line.isBlank());
        }
    }

    private void blocks(String text) throws ReflectiveOperationException {
        boolean inside = false;
        for (String line : text.split("\n")) {
            if (line.startsWith("```")) {
                inside = line.equals("```java");
            } else if (inside) {
                line(line);
            }
        }
        due.holds("a short run of calls", calls >= 10);
    }

    /** Each test of the project is named, and none that is not there. */
    private void tests(String text) throws java.io.IOException {
        due.holds("how to run the tests", text.contains("`.ci/run`"));
        due.holds("what it names can be run", Files.isExecutable(Path.of(".ci/run")));
        try (var files = Files.list(Path.of("src/test/java"))) {
            for (Path file : files.toList()) {
                String name = file.getFileName().toString().replace(".java", "");
                due.holds(name + " is named", !name.endsWith("Test") || text.contains("`" + name + "`"));
            }
        }
        Matcher names = Pattern.compile("`(\\w+Test)`").matcher(text);
        while (names.find()) {
            due.holds(names.group(1) + " is there", Files.exists(Path.of("src/test/java", names.group(1) + ".java")));
        }
    }

    public static void main(String[] args) throws Exception {
        Due due = new Due();
        ReadmeTest test = new ReadmeTest(due);
        String text = Files.readString(Path.of("README.md"));
        test.blocks(text);
        test.tests(text);
        due.finish();
    }
}
