import java.io.IOException;
import java.lang.reflect.Executable;
import java.lang.reflect.Field;
import java.lang.reflect.Modifier;
import java.nio.file.Files;
import java.nio.file.Path;
import java.util.ArrayList;
import java.util.List;
import java.util.Set;

/** The rules of LANGUAGE.md that can be counted in the source or seen in the compiled classes. */
public final class LanguageTest {
    private static final Path SOURCE = Path.of("src/main/java/SnapshotVault.java");

    /** Words and signs that the rules leave no place for in this program. */
    private static final String[] NOT_USED = {"package ", "import ", "->", "::", "throw ", "try ",
        "finally", "synchronized", "assert ", "static {", "java.", "System.", "protected ",
        "hashCode", "toString", "Exact(", "float ", "double "};

    private static final Set<Class<?>> CONSTANTS =
            Set.of(int.class, long.class, boolean.class, char.class, String.class);

    public static void main(String[] args) throws IOException {
        List<String> code = codeOf(Files.readAllLines(SOURCE));
        nothingElseIsUsed(code);
        methodsStayShort(code);
        classesStayFewAndSmall();
        staticFieldsAreConstants();
        methodsTakeAtMostSeven();
        Check.end();
    }

    /** The lines without their comments. */
    private static List<String> codeOf(List<String> lines) {
        List<String> code = new ArrayList<>();
        for (String line : lines) {
            String told = line.strip();
            boolean comment = told.startsWith("/*") || told.startsWith("*") || told.startsWith("//");
            code.add(comment ? "" : line);
        }
        return code;
    }

    private static void nothingElseIsUsed(List<String> code) {
        for (String line : code) {
            for (String word : NOT_USED) {
                Check.no("'" + word + "' in: " + line, line.contains(word));
            }
        }
    }

    /** A method opens with a brace four or eight blanks deep, and closes at the same depth. */
    private static void methodsStayShort(List<String> code) {
        int opened = -1;
        int closed = 0;
        String depth = "";
        for (int k = 0; k < code.size(); k++) {
            String line = code.get(k);
            if (opened < 0 && line.matches(" {4}( {4})?\\w.*\\) \\{")) {
                opened = k;
                depth = line.substring(0, line.length() - line.stripLeading().length());
            } else if (opened >= 0 && line.equals(depth + "}")) {
                Check.yes("at most 60 lines: " + code.get(opened).strip(), k - opened < 60);
                opened = -1;
                closed++;
            }
        }
        Check.due("methods seen in the source", closed, methods().size());
    }

    private static List<Class<?>> classes() {
        List<Class<?>> classes = new ArrayList<>(List.of(SnapshotVault.class.getDeclaredClasses()));
        classes.add(SnapshotVault.class);
        return classes;
    }

    private static void classesStayFewAndSmall() {
        Check.yes("at most twelve classes", classes().size() <= 12);
        for (Class<?> each : classes()) {
            int fields = 0;
            for (Field field : each.getDeclaredFields()) {
                fields += Modifier.isStatic(field.getModifiers()) ? 0 : 1;
            }
            Check.yes(each + " has at most twenty fields", fields <= 20);
            if (each != SnapshotVault.class) {
                int modifiers = each.getModifiers();
                Check.yes(each + " is static", Modifier.isStatic(modifiers));
                Check.no(each + " is public", Modifier.isPublic(modifiers));
                Check.no(each + " is protected", Modifier.isProtected(modifiers));
            }
        }
    }

    private static void staticFieldsAreConstants() {
        for (Class<?> each : classes()) {
            for (Field field : each.getDeclaredFields()) {
                if (Modifier.isStatic(field.getModifiers())) {
                    Check.yes(field + " is final", Modifier.isFinal(field.getModifiers()));
                    Check.yes(field + " is a constant", CONSTANTS.contains(field.getType()));
                }
            }
        }
    }

    private static List<Executable> methods() {
        List<Executable> methods = new ArrayList<>();
        for (Class<?> each : classes()) {
            methods.addAll(List.of(each.getDeclaredMethods()));
            methods.addAll(List.of(each.getDeclaredConstructors()));
        }
        return methods;
    }

    private static void methodsTakeAtMostSeven() {
        for (Executable each : methods()) {
            Check.yes(each + " takes at most seven", each.getParameterCount() <= 7);
        }
    }
}
