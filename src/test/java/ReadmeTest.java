import java.io.IOException;
import java.lang.reflect.InvocationTargetException;
import java.lang.reflect.Method;
import java.lang.reflect.Modifier;
import java.nio.file.Files;
import java.nio.file.Path;
import java.util.regex.Matcher;
import java.util.regex.Pattern;

/** README.md tells answers that are so and names every call and constant. Run where README.md is. */
public final class ReadmeTest {
    private static final Check CHECK = new Check("readme");
    private static final Pattern EXAMPLE = Pattern.compile("(?m)^x\\.(\\w+)\\(([^)]*)\\); *// (-?\\d+):");

    public static void main(String[] args) throws IOException, IllegalAccessException {
        String page = Files.readString(Path.of("README.md"));
        examples(page);
        for (Method method : LastToAsk.class.getDeclaredMethods()) {
            if (Modifier.isPublic(method.getModifiers())) {
                CHECK.due(method.getName() + " in the table", tableRows(page, method.getName()), 1);
            }
        }
        for (String constant : new String[] {"BAD", "NO", "FULL", "NONE"}) {
            CHECK.due(constant + " is told", page.contains("`" + constant + "`") ? 1 : 0, 1);
        }
        CHECK.due("how the tests are run", page.contains("    bash .ci/run\n") ? 1 : 0, 1);
        CHECK.close();
    }

    /** The lines of the example are one run on one object. */
    private static void examples(String page) throws IllegalAccessException {
        LastToAsk x = new LastToAsk();
        Matcher line = EXAMPLE.matcher(page);
        int many = 0;
        while (line.find()) {
            many++;
            String call = line.group(1) + "(" + line.group(2) + ")";
            CHECK.due(call, answer(x, line.group(1), line.group(2)), Long.parseLong(line.group(3)));
        }
        CHECK.due("lines of the example", many, page.split("(?m)^x\\.", -1).length - 1);
        CHECK.due("an example is there", many > 0 ? 1 : 0, 1);
    }

    private static long answer(LastToAsk x, String name, String written) throws IllegalAccessException {
        String[] parts = written.isEmpty() ? new String[0] : written.split(", ");
        Class<?>[] types = new Class<?>[parts.length];
        Object[] values = new Object[parts.length];
        for (int k = 0; k < parts.length; k++) {
            types[k] = int.class;
            values[k] = Integer.parseInt(parts[k]);
        }
        try {
            return ((Number) LastToAsk.class.getMethod(name, types).invoke(x, values)).longValue();
        } catch (NoSuchMethodException | InvocationTargetException e) {
            throw new IllegalStateException(name, e);
        }
    }

    private static int tableRows(String page, String name) {
        int rows = 0;
        for (String line : page.split("\n")) {
            if (line.startsWith("|") && line.split("\\|")[1].contains("`" + name + "`")) {
                rows++;
            }
        }
        return rows;
    }
}
