import java.io.IOException;
import java.lang.reflect.Method;
import java.lang.reflect.Modifier;
import java.nio.file.Files;
import java.nio.file.Path;
import java.util.Set;
import java.util.TreeSet;
import java.util.regex.Matcher;
import java.util.regex.Pattern;

/** The example of README.md, row by row, and its table of calls: what it tells is to hold. */
public final class GlacierHutReadme {
    private static final Path README = Path.of("README.md");
    private static final Pattern ROW = Pattern.compile("(?m)^hut\\.(\\w+)\\((.*?)\\);\\s*// .*: (-?\\d+)$");
    private static final Pattern EXAMPLE_CALL = Pattern.compile("(?m)^hut\\.");
    private static final Pattern TABLE_CALL = Pattern.compile("(?m)^\\| `(\\w+)\\((.*?)\\)` \\|");
    private static final Pattern CONSTANT = Pattern.compile("(?m)^\\| `([A-Z_]+)` \\| (-?\\d+) \\|");
    private static final int CONSTANTS = 4;

    private static int wrong = 0;

    private static void due(String what, Object got, Object want) {
        if (!got.equals(want)) {
            wrong++;
            System.out.println("README.md: " + what + " is " + got + ", due is " + want);
        }
    }

    public static void main(String[] args) throws IOException, ReflectiveOperationException {
        String readme = Files.readString(README);
        checkExample(readme);
        checkTable(readme);
        checkConstants(readme);
        System.out.println(wrong == 0 ? "the page holds" : wrong + " rows of the page do not hold");
        if (wrong != 0) {
            System.exit(1);
        }
    }

    private static void checkExample(String readme) throws ReflectiveOperationException {
        GlacierHut hut = new GlacierHut();
        Matcher row = ROW.matcher(readme);
        long rows = 0;
        while (row.find()) {
            rows++;
            int[] numbers = numbers(row.group(2));
            due(row.group(), callOn(hut, row.group(1), numbers), Integer.parseInt(row.group(3)));
        }
        due("the number of rows with an answer", rows, EXAMPLE_CALL.matcher(readme).results().count());
        due("an example being there", rows > 0, true);
    }

    private static int[] numbers(String arguments) {
        String[] parts = arguments.isEmpty() ? new String[0] : arguments.split(", ");
        int[] numbers = new int[parts.length];
        for (int i = 0; i < parts.length; i++) {
            numbers[i] = parts[i].startsWith("'") ? parts[i].charAt(1) : Integer.parseInt(parts[i]);
        }
        return numbers;
    }

    private static int callOn(GlacierHut hut, String name, int[] numbers) throws ReflectiveOperationException {
        Class<?>[] types = new Class<?>[numbers.length];
        Object[] values = new Object[numbers.length];
        for (int i = 0; i < numbers.length; i++) {
            types[i] = int.class;
            values[i] = numbers[i];
        }
        return (Integer) GlacierHut.class.getMethod(name, types).invoke(hut, values);
    }

    private static void checkTable(String readme) {
        Set<String> told = new TreeSet<>();
        Matcher row = TABLE_CALL.matcher(readme);
        while (row.find()) {
            told.add(row.group(1) + " " + (row.group(2).isEmpty() ? 0 : row.group(2).split(", ").length));
        }
        Set<String> face = new TreeSet<>();
        for (Method method : GlacierHut.class.getDeclaredMethods()) {
            if (Modifier.isPublic(method.getModifiers())) {
                face.add(method.getName() + " " + method.getParameterCount());
            }
        }
        due("the table of calls", told, face);
    }

    private static void checkConstants(String readme) throws ReflectiveOperationException {
        Matcher row = CONSTANT.matcher(readme);
        int rows = 0;
        while (row.find()) {
            rows++;
            int value = GlacierHut.class.getField(row.group(1)).getInt(null);
            due(row.group(1), Integer.parseInt(row.group(2)), value);
        }
        due("the number of constants", rows, CONSTANTS);
    }
}
