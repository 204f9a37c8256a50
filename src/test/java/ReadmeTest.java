import java.io.IOException;
import java.lang.reflect.InvocationTargetException;
import java.lang.reflect.Method;
import java.lang.reflect.Modifier;
import java.nio.file.Files;
import java.nio.file.Path;
import java.util.Set;
import java.util.TreeSet;
import java.util.regex.Matcher;
import java.util.regex.Pattern;

/** The calls of README.md answer what it says, and none of the face is missing there. */
public final class ReadmeTest {
    private static final Check CHECK = new Check("ReadmeTest");
    private static final Pattern MADE = Pattern.compile("PointsTo x = new PointsTo\\(\\);");
    private static final Pattern FED = Pattern.compile("feed\\(x, \"(.*)\"\\);");
    private static final Pattern CALL = Pattern.compile("x\\.(\\w+)\\((.*)\\); +// (-?\\d+|throws \\w+)(: .*)?");

    public static void main(String[] args) throws IOException {
        Set<String> missing = new TreeSet<>();
        for (Method m : PointsTo.class.getDeclaredMethods()) {
            if (Modifier.isPublic(m.getModifiers())) {
                missing.add(m.getName());
            }
        }
        PointsTo x = new PointsTo();
        for (String line : Files.readAllLines(Path.of("README.md"))) {
            Matcher fed = FED.matcher(line);
            Matcher call = CALL.matcher(line);
            if (MADE.matcher(line).matches()) {
                x = new PointsTo();
            } else if (fed.matches()) {
                Check.append(x, fed.group(1));
            } else if (call.matches()) {
                CHECK.same(line, answer(x, call.group(1), call.group(2)), call.group(3));
                missing.remove(call.group(1));
            } else {
                CHECK.same(line + " is a call that can be read", line.matches("(x\\.|feed).*"), false);
            }
        }
        CHECK.same("methods without a call", missing.toString(), "[]");
        CHECK.end();
    }

    private static String answer(PointsTo x, String name, String list) {
        String[] arguments = list.isEmpty() ? new String[0] : list.split(", ");
        for (Method m : PointsTo.class.getDeclaredMethods()) {
            if (m.getName().equals(name) && m.getParameterCount() == arguments.length) {
                return invoke(x, m, arguments);
            }
        }
        return "no such method";
    }

    private static String invoke(PointsTo x, Method m, String[] arguments) {
        Object[] values = new Object[arguments.length];
        for (int i = 0; i < values.length; i++) {
            long value = Long.decode(arguments[i].replace("L", ""));
            if (m.getParameterTypes()[i] == long.class) {
                values[i] = value;
            } else {
                values[i] = (int) value;
            }
        }
        try {
            return m.invoke(x, values).toString();
        } catch (InvocationTargetException e) {
            return "throws " + e.getCause().getClass().getSimpleName();
        } catch (IllegalAccessException e) {
            return "not open";
        }
    }
}
