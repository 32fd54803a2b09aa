import java.lang.reflect.Field;
import java.lang.reflect.InvocationTargetException;
import java.lang.reflect.Method;
import java.lang.reflect.Modifier;
import java.io.IOException;
import java.nio.file.Files;
import java.nio.file.Path;
import java.util.regex.Matcher;
import java.util.regex.Pattern;

/** What README.md says of the class: its example answers what is said beside it, and each method and code is told. */
public final class ReadmeTest {
    private static final Pattern EXAMPLE = Pattern.compile("^tiles\\.(\\w+)\\((.*)\\); +// (-?\\d+).*$", Pattern.MULTILINE);

    private ReadmeTest() {
    }

    public static void main(String[] args) throws IOException, ReflectiveOperationException {
        String readme = Files.readString(Path.of("README.md"));
        example(readme);
        methods(readme);
        codes(readme);
        Due.end("ReadmeTest");
    }

    private static void example(String readme) throws ReflectiveOperationException {
        QuarterTiles tiles = new QuarterTiles();
        Matcher matcher = EXAMPLE.matcher(readme);
        int found = 0;
        while (matcher.find()) {
            found++;
            int got = answer(tiles, matcher.group(1), matcher.group(2));
            Due.is(matcher.group(1) + "(" + matcher.group(2) + ")", got, Integer.parseInt(matcher.group(3)));
        }
        Due.is("calls of the example", found, readme.split("\ntiles\\.").length - 1);
        Due.holds("there are some", found > 10);
    }

    private static int answer(QuarterTiles tiles, String name, String told)
        throws IllegalAccessException, InvocationTargetException, NoSuchFieldException {
        String[] arguments = told.isEmpty() ? new String[0] : told.split(", ");
        Method method = methodOf(name);
        Object[] values = new Object[arguments.length];
        for (int i = 0; i < arguments.length; i++) {
            values[i] = valueOf(arguments[i], method.getParameterTypes()[i]);
        }
        return (int) method.invoke(tiles, values);
    }

    private static Method methodOf(String name) {
        for (Method method : QuarterTiles.class.getDeclaredMethods()) {
            if (method.getName().equals(name)) {
                return method;
            }
        }
        throw new IllegalArgumentException("README.md tells a method " + name);
    }

    private static Object valueOf(String argument, Class<?> type) throws IllegalAccessException, NoSuchFieldException {
        if (argument.startsWith("QuarterTiles.")) {
            return QuarterTiles.class.getField(argument.substring("QuarterTiles.".length())).get(null);
        }
        if (type == boolean.class) {
            return Boolean.valueOf(argument);
        }
        if (type == long.class) {
            return Long.decode(argument.replace("L", ""));
        }
        return Integer.valueOf(argument);
    }

    private static void methods(String readme) {
        for (Method method : QuarterTiles.class.getDeclaredMethods()) {
            if (Modifier.isPublic(method.getModifiers())) {
                int parameters = method.getParameterCount();
                Pattern told = Pattern.compile(
                    "^\\|.*`" + method.getName() + "\\(" + "\\w+, ".repeat(Math.max(0, parameters - 1))
                    + (parameters == 0 ? "" : "\\w+") + "\\)`.*\\|", Pattern.MULTILINE);
                Due.holds(method.getName() + " is told with its parameters", told.matcher(readme).find());
            }
        }
    }

    private static void codes(String readme) throws IllegalAccessException {
        for (Field field : QuarterTiles.class.getDeclaredFields()) {
            if (Modifier.isPublic(field.getModifiers()) && field.getInt(null) < 0) {
                String row = "| `" + field.getName() + "` | " + field.getInt(null) + " | ";
                Due.holds(field.getName() + " is told with its value", readme.contains(row));
            }
        }
    }
}
