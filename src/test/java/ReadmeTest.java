import java.io.IOException;
import java.lang.reflect.Field;
import java.lang.reflect.Method;
import java.lang.reflect.Modifier;
import java.nio.file.Files;
import java.nio.file.Path;
import java.util.regex.Matcher;
import java.util.regex.Pattern;

/** README.md: the calls of its example answer what it says, and it names all of the face. */
public final class ReadmeTest {
    private static final Pattern CALL =
            Pattern.compile(" {4}vault\\.(\\w+)\\((.*)\\); +// ([-\\w]+).*");

    public static void main(String[] args) throws IOException, ReflectiveOperationException {
        String readme = Files.readString(Path.of("README.md"));
        exampleAnswersWhatItTells(readme);
        everyCallIsNamed(readme);
        everyConstantIsNamed(readme);
        Check.end();
    }

    private static void exampleAnswersWhatItTells(String readme)
            throws ReflectiveOperationException {
        SnapshotVault vault = new SnapshotVault();
        int calls = 0;
        for (String line : readme.lines().toList()) {
            if (line.startsWith("    vault.")) {
                Matcher parts = CALL.matcher(line);
                Check.yes("an answer in " + line, parts.matches());
                long got = answer(vault, parts.group(1), parts.group(2).split(", "));
                Check.due(line, got, number(parts.group(3)));
                calls++;
            }
        }
        Check.yes("there are calls in the example", calls > 0);
    }

    private static long answer(SnapshotVault vault, String name, String[] told)
            throws ReflectiveOperationException {
        Method method = methodOf(name);
        Object[] arguments = new Object[told.length];
        for (int k = 0; k < told.length; k++) {
            long value = number(told[k]);
            if (method.getParameterTypes()[k] == int.class) {
                arguments[k] = Math.toIntExact(value);
            } else {
                arguments[k] = value;
            }
        }
        Object got = method.invoke(vault, arguments);
        return got instanceof Boolean truth ? (truth ? 1 : 0) : ((Number) got).longValue();
    }

    private static Method methodOf(String name) {
        for (Method method : SnapshotVault.class.getDeclaredMethods()) {
            if (method.getName().equals(name)) {
                return method;
            }
        }
        throw new IllegalArgumentException("README.md calls " + name + ", which is not there");
    }

    /** A number as Java writes it, true as 1, false as 0, or one of the face's constants. */
    private static long number(String told) throws ReflectiveOperationException {
        if (told.equals("true") || told.equals("false")) {
            return told.equals("true") ? 1 : 0;
        }
        if (told.matches("[A-Z]+")) {
            return SnapshotVault.class.getField(told).getInt(null);
        }
        return Long.decode(told.replace("L", ""));
    }

    private static void everyCallIsNamed(String readme) {
        for (Method method : SnapshotVault.class.getDeclaredMethods()) {
            if (Modifier.isPublic(method.getModifiers())) {
                String row = "| `" + method.getName() + "(";
                Check.yes("README.md has a row " + row, readme.contains(row));
            }
        }
    }

    private static void everyConstantIsNamed(String readme) throws IllegalAccessException {
        for (Field field : SnapshotVault.class.getFields()) {
            String row = "| `" + field.getName() + "` (" + field.getInt(null) + ") |";
            Check.yes("README.md has a row " + row, readme.contains(row));
        }
    }
}
