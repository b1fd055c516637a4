import java.io.IOException;
import java.lang.reflect.InvocationTargetException;
import java.lang.reflect.Method;
import java.lang.reflect.Modifier;
import java.nio.file.Files;
import java.nio.file.Path;
import java.util.regex.Matcher;
import java.util.regex.Pattern;

/** The calls in README.md, from its first to its last on one object, answer what stands behind them. */
public final class ReadmeTest {
    private static final String NEW = "Patchstore x = new Patchstore();";
    private static final Pattern ROW = Pattern.compile(
        "x\\.(\\w+)\\((.*)\\); +// (\"[^\"]*\"|-?\\d+|true|false|throws \\w+)(: .*)?");

    private static int wrong;
    private static int rows;

    private static void check(boolean isGood, String what) {
        if (!isGood) {
            wrong++;
            System.out.println("README.md: " + what);
        }
    }

    private static Method method(String name) {
        for (Method method : Patchstore.class.getDeclaredMethods()) {
            if (method.getName().equals(name) && Modifier.isPublic(method.getModifiers())) {
                return method;
            }
        }
        throw new AssertionError("README.md: there is no call " + name);
    }

    private static Object[] values(String text) {
        if (text.isEmpty()) {
            return new Object[0];
        }
        String[] parts = text.split(", ");
        Object[] values = new Object[parts.length];
        for (int k = 0; k < parts.length; k++) {
            values[k] = parts[k].matches("-?\\d+") ? (Object) Integer.valueOf(parts[k]) : Boolean.valueOf(parts[k]);
        }
        return values;
    }

    private static String answer(Patchstore x, String name, Object[] values) throws ReflectiveOperationException {
        try {
            Object got = method(name).invoke(x, values);
            return got instanceof String ? "\"" + got + "\"" : got.toString();
        } catch (InvocationTargetException e) {
            return "throws " + e.getCause().getClass().getSimpleName();
        }
    }

    private static void checkRow(Patchstore x, String row) throws ReflectiveOperationException {
        Matcher told = ROW.matcher(row);
        if (!told.matches()) {
            check(false, "this is no call with its answer: " + row);
            return;
        }
        String got = answer(x, told.group(1), values(told.group(2)));
        check(got.equals(told.group(3)), row + " answered " + got);
        rows++;
    }

    private static void checkRows(String text) throws ReflectiveOperationException {
        Patchstore x = null;
        boolean isCode = false;
        for (String line : text.split("\n")) {
            if (line.startsWith("```")) {
                isCode = line.equals("```java");
            } else if (isCode && line.equals(NEW)) {
                x = new Patchstore();
            } else if (isCode) {
                checkRow(x, line);
            }
        }
        check(rows > 0, "there is no call");
    }

    private static void checkNames(String text) {
        for (Method method : Patchstore.class.getDeclaredMethods()) {
            String name = method.getName();
            if (Modifier.isPublic(method.getModifiers())) {
                check(text.contains("`" + name + "`") || text.contains("x." + name + "("), name + " is not named");
            }
        }
    }

    public static void main(String[] args) throws IOException, ReflectiveOperationException {
        String text = Files.readString(Path.of("README.md"));
        checkRows(text);
        checkNames(text);
        if (wrong > 0) {
            System.exit(1);
        }
        System.out.println("ReadmeTest: " + rows + " calls answer what README.md says");
    }
}
