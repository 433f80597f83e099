import java.io.IOException;
import java.lang.reflect.Constructor;
import java.lang.reflect.Field;
import java.lang.reflect.Method;
import java.lang.reflect.Modifier;
import java.nio.file.Files;
import java.nio.file.Path;
import java.util.ArrayList;
import java.util.List;
import java.util.Set;
import java.util.regex.Matcher;
import java.util.regex.Pattern;

/** The rules of LANGUAGE.md, as far as they can be read off the file and the class. */
public final class LanguageTest {
    private static final Set<String> IMPORTS = Set.of("import java.util.ArrayList;", "import java.util.Arrays;",
            "import java.util.Iterator;", "import java.util.List;", "import java.util.NoSuchElementException;");
    private static final Set<String> LIBRARY = Set.of("Arrays.copyOf", "Arrays.copyOfRange", "Arrays.fill",
            "Integer.compare", "Integer.bitCount", "Integer.max", "Integer.min", "Long.bitCount", "Long.compare",
            "Math.abs", "Math.floorDiv", "Math.floorMod", "Math.max", "Math.min", "System.arraycopy");
    private static final String[] RULED_OUT = {"package", "throw", "try", "catch", "finally", "synchronized",
        "assert", "protected", "volatile", "native", "equals", "hashCode", "toString", "Object", "Thread",
        "Runtime", "Random", "currentTimeMillis", "nanoTime"};
    private static final Set<Class<?>> CONSTANTS = Set.of(int.class, long.class, boolean.class, char.class,
            String.class, int[].class, long[].class, char[].class, byte[].class);
    private static final int MOST_CLASSES = 12, MOST_FIELDS = 20, MOST_PARAMETERS = 7, MOST_LINES = 60;

    private final Checks checks = new Checks();
    private final List<String> lines = new ArrayList<>();

    private LanguageTest(List<String> file) {
        boolean inComment = false;
        for (String line : file) {
            inComment |= line.contains("/*");
            lines.add(inComment ? "" : line.replaceAll("//.*", "").stripTrailing());
            inComment &= !line.contains("*/");
        }
    }

    public static void main(String[] args) throws IOException {
        Path file = Path.of("src/main/java/GroupOrder.java");
        LanguageTest test = new LanguageTest(Files.readAllLines(file));
        test.oneFile(file.getParent());
        test.words();
        test.library();
        test.lengths();
        List<Class<?>> classes = new ArrayList<>(List.of(GroupOrder.class.getDeclaredClasses()));
        classes.add(GroupOrder.class);
        test.checks.due("classes", true, classes.size() <= MOST_CLASSES);
        for (Class<?> each : classes) {
            test.fields(each);
            test.parameters(each);
            test.checks.due("classes in " + each, 0, each == GroupOrder.class ? 0 : each.getDeclaredClasses().length);
        }
        test.checks.end();
    }

    private void none(String rule, boolean broken) {
        checks.due(rule, false, broken);
    }

    private void oneFile(Path folder) throws IOException {
        try (var files = Files.list(folder)) {
            checks.due("files of the program", 1, files.count());
        }
    }

    private void words() {
        for (String line : lines) {
            none("import of " + line, line.startsWith("import") && !IMPORTS.contains(line));
            none("lambda or method reference in " + line, line.contains("->") || line.contains("::"));
            for (String word : RULED_OUT) {
                none(word + " in " + line, Pattern.compile("\\b" + word + "\\b").matcher(line).find());
            }
        }
    }

    private void library() {
        Pattern call = Pattern.compile("\\b(Arrays|Integer|Long|Math|System)\\.\\w+");
        for (String line : lines) {
            Matcher found = call.matcher(line);
            while (!line.startsWith("import") && found.find()) {
                checks.due(found.group() + " is one of the library's that may be used", true,
                        LIBRARY.contains(found.group()) || found.group().matches("(Integer|Long)\\.M(IN|AX)_VALUE"));
            }
        }
    }

    /** A method begins with a line that ends in ") {" and ends at the next brace of its depth. */
    private void lengths() {
        for (int from = 0; from < lines.size(); from++) {
            Matcher head = Pattern.compile("( {4}| {8})[a-zA-Z].*\\) \\{").matcher(lines.get(from));
            if (!head.matches()) {
                continue;
            }
            int to = from;
            while (to < lines.size() && !lines.get(to).equals(head.group(1) + "}")) {
                to++;
            }
            checks.due("lines of" + lines.get(from), true, to - from < MOST_LINES);
        }
    }

    private void fields(Class<?> each) {
        int ofObject = 0;
        for (Field field : each.getDeclaredFields()) {
            boolean isStatic = Modifier.isStatic(field.getModifiers());
            ofObject += isStatic ? 0 : 1;
            none(field + " is static, but no constant", isStatic
                    && !(Modifier.isFinal(field.getModifiers()) && CONSTANTS.contains(field.getType())));
            none(field + " is no field, but made by the compiler", field.isSynthetic());
        }
        checks.due("fields of " + each, true, ofObject <= MOST_FIELDS);
    }

    private void parameters(Class<?> each) {
        for (Method method : each.getDeclaredMethods()) {
            checks.due("parameters of " + method, true, method.getParameterCount() <= MOST_PARAMETERS);
        }
        for (Constructor<?> made : each.getDeclaredConstructors()) {
            checks.due("parameters of " + made, true, made.getParameterCount() <= MOST_PARAMETERS);
        }
    }
}
