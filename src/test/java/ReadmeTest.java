import java.io.IOException;
import java.lang.reflect.Method;
import java.lang.reflect.Modifier;
import java.nio.file.Files;
import java.nio.file.Path;
import java.util.regex.Matcher;
import java.util.regex.Pattern;

/**
 * README.md: each call of its examples answers the number or constant that its comment begins with, and its table
 * has each call of the face. Runs in the project's folder.
 */
public final class ReadmeTest {
    private static final Pattern MADE = Pattern.compile("new TwoSlots\\((-?\\d+), (-?\\d+), (-?\\d+)L\\);");
    private static final Pattern CALL = Pattern.compile("device\\.(\\w+)\\(([^)]*)\\);\\s+// (-?\\w+)");

    public static void main(String[] args) throws IOException, ReflectiveOperationException {
        String readme = Files.readString(Path.of("README.md"));
        TwoSlots device = null;
        int calls = 0;
        for (String line : readme.split("\\n")) {
            Matcher made = MADE.matcher(line);
            if (made.find()) {
                device = new TwoSlots(number(made.group(1)), number(made.group(2)), number(made.group(3)));
            }
            Matcher call = CALL.matcher(line);
            if (call.find()) {
                calls++;
                Due.is(line.strip(), answer(device, call.group(1), call.group(2)), number(call.group(3)));
            } else {
                Due.is("a call without an answer: " + line.strip(), line.startsWith("device.") ? 1 : 0, 0);
            }
        }
        Due.is("there are examples", calls > 10 ? 1 : 0, 1);
        for (Method m : TwoSlots.class.getDeclaredMethods()) {
            boolean ofTheFace = Modifier.isPublic(m.getModifiers());
            Due.is("the table has " + m.getName(), !ofTheFace || readme.contains("| `" + m.getName() + "(") ? 1 : 0, 1);
        }
        Due.end();
    }

    private static int answer(TwoSlots device, String name, String told) throws ReflectiveOperationException {
        String[] arguments = told.isEmpty() ? new String[0] : told.split(", ");
        Class<?>[] types = new Class<?>[arguments.length];
        Object[] numbers = new Object[arguments.length];
        for (int i = 0; i < arguments.length; i++) {
            types[i] = int.class;
            numbers[i] = number(arguments[i]);
        }
        return (int) TwoSlots.class.getMethod(name, types).invoke(device, numbers);
    }

    /** A number, or a constant of the class by its name. */
    private static int number(String told) throws ReflectiveOperationException {
        String plain = told.replace("TwoSlots.", "");
        return plain.matches("-?\\d+") ? Integer.parseInt(plain) : TwoSlots.class.getField(plain).getInt(null);
    }
}
