import java.lang.reflect.Constructor;
import java.lang.reflect.Field;
import java.lang.reflect.Method;
import java.lang.reflect.Modifier;
import java.nio.file.Files;
import java.nio.file.Path;
import java.util.ArrayList;
import java.util.Arrays;
import java.util.Collections;
import java.util.HashSet;
import java.util.List;
import java.util.Set;
import java.util.regex.Matcher;
import java.util.regex.Pattern;

/** The public face is the document's and no more; the source keeps to what LANGUAGE.md lets be looked up by words. */
final class FaceTest {
    private static final String[] FACE = {
        "int routine()", "int block(int, int)", "int end(int, int, int, int, int, int)", "int count(int, int, int)",
        "int cold(int, boolean)", "int about(int, int)", "int move(int, int)", "int swap(int, int)",
        "int order(int, int)", "int undo()", "int set(int, int)", "int weight(int, int)", "int row(int)",
        "int laid(int, int)", "int image(int)", "int told(int)", "int say(long, int)", "int tear()",
        "int run(int, int)", "int ran(int, int)", "int passed(int, int)", "int learn()", "int pages(int)",
        "int differ()", "int has(int)"};

    private static String shown(Method method) {
        List<String> kinds = new ArrayList<>();
        for (Class<?> kind : method.getParameterTypes()) {
            kinds.add(kind.getSimpleName());
        }
        return method.getReturnType().getSimpleName() + " " + method.getName() + "(" + String.join(", ", kinds) + ")";
    }

    private static void methods(Due due) {
        List<String> open = new ArrayList<>();
        Set<String> publicNames = new HashSet<>();
        for (Method method : FallRows.class.getDeclaredMethods()) {
            if (!Modifier.isPrivate(method.getModifiers()) && !method.isSynthetic()) {
                due.holds(method.getName() + " is public", Modifier.isPublic(method.getModifiers()));
                open.add(shown(method));
                publicNames.add(method.getName());
            }
        }
        List<String> want = new ArrayList<>(Arrays.asList(FACE));
        Collections.sort(open);
        Collections.sort(want);
        due.are("the methods", open.toString(), want.toString());
        for (Method method : FallRows.class.getDeclaredMethods()) {
            due.holds(method.getName() + " has no private namesake",
                !Modifier.isPrivate(method.getModifiers()) || !publicNames.contains(method.getName()));
        }
        for (Class<?> inside : FallRows.class.getDeclaredClasses()) {
            due.holds(inside + " is static", Modifier.isStatic(inside.getModifiers()));
            due.holds(inside + " is not public", !Modifier.isPublic(inside.getModifiers()));
            for (Method method : inside.getDeclaredMethods()) {
                due.holds(inside + "." + method.getName() + " bears no public name",
                    !publicNames.contains(method.getName()));
            }
        }
    }

    private static void fields(Due due) throws IllegalAccessException {
        StringBuilder open = new StringBuilder();
        for (Field field : FallRows.class.getDeclaredFields()) {
            if (!Modifier.isPrivate(field.getModifiers())) {
                due.holds(field.getName() + " is public static final",
                    (field.getModifiers() & 31) == (Modifier.PUBLIC | Modifier.STATIC | Modifier.FINAL));
                open.append(field.getName()).append('=').append(field.getInt(null)).append(' ');
            }
        }
        due.are("the constants", open.toString(), "BAD=-1 STATE=-2 FULL=-3 NONE=-9 BACK=0 TRAP=1 DEEP=2 LONG=3 ");
        int constructors = 0;
        for (Constructor<?> constructor : FallRows.class.getDeclaredConstructors()) {
            constructors++;
            due.holds("the constructor is public", Modifier.isPublic(constructor.getModifiers()));
            due.is("its arguments", constructor.getParameterCount(), 0);
        }
        due.is("constructors", constructors, 1);
        due.holds("final", Modifier.isFinal(FallRows.class.getModifiers()));
    }

    /** The source without its comments. */
    private static String code() throws java.io.IOException {
        String text = Files.readString(Path.of("src/main/java/FallRows.java"));
        return text.replaceAll("(?s)/\\*.*?\\*/", " ").replaceAll("//[^\n]*", " ");
    }

    private static void words(Due due) throws java.io.IOException {
        String code = code();
        Set<String> used = new HashSet<>(Arrays.asList(code.split("[^A-Za-z0-9_]+")));
        String[] banned = {"throw", "throws", "try", "catch", "finally", "synchronized", "assert", "package",
            "HashMap", "Map", "Random", "Thread", "double", "float", "null", "instanceof", "Exception"};
        for (String word : banned) {
            due.holds("no word " + word, !used.contains(word));
        }
        due.holds("no lambda, no reference", !code.contains("->") && !code.contains("::"));
        due.holds("no loop without a bound", !code.contains("while") && !code.contains("for (;;)"));
        due.holds("nothing of another package but Arrays",
            !code.replace("import java.util.Arrays;", "").contains("import"));
    }

    /** Rule 11, and rule 5: no static field that could change. */
    private static void sizes(Due due) {
        List<Class<?>> all = new ArrayList<>(Arrays.asList(FallRows.class.getDeclaredClasses()));
        all.add(FallRows.class);
        due.holds("some twelve classes", all.size() <= 12);
        for (Class<?> one : all) {
            int held = 0;
            for (Field field : one.getDeclaredFields()) {
                boolean isStatic = Modifier.isStatic(field.getModifiers());
                held += isStatic ? 0 : 1;
                due.holds(field + " is a constant", !isStatic || Modifier.isFinal(field.getModifiers()));
            }
            due.holds(one + " has some twenty fields", held <= 20);
            for (Method method : one.getDeclaredMethods()) {
                due.holds(method + " takes at most seven", method.getParameterCount() <= 7);
            }
        }
    }

    /** Rule 4; and rows are made with the object alone, so that no run of calls can fill the room. */
    private static void library(Due due) throws java.io.IOException {
        Set<String> allowed = Set.of("Math.abs", "Math.max", "Math.min", "Integer.bitCount", "System.arraycopy",
            "Arrays.fill");
        Matcher calls = Pattern.compile("\\b(Math|Integer|Long|System|Arrays|String|List)\\.\\w+").matcher(code());
        while (calls.find()) {
            due.holds(calls.group() + " is of the library that may be used", allowed.contains(calls.group()));
        }
        for (String line : code().split("\n")) {
            due.holds("made with the object: " + line, !line.matches(".*\\bnew\\b.*")
                || line.matches(" +final \\w+\\[\\] \\w+ = new \\w+\\[.*\\];")
                || line.matches(" {8}\\w+ = new \\w+[(\\[].*;"));
        }
    }

    public static void main(String[] args) throws Exception {
        Due due = new Due();
        methods(due);
        fields(due);
        sizes(due);
        words(due);
        library(due);
        due.finish();
    }
}
