import java.io.IOException;
import java.lang.reflect.InvocationTargetException;
import java.lang.reflect.Method;
import java.lang.reflect.Modifier;
import java.nio.file.Files;
import java.nio.file.Path;
import java.util.Set;
import java.util.TreeSet;
import java.util.regex.Matcher;
import java.util.regex.Pattern;

/** The calls of README.md answer what README.md says, and it tells of every call of the face. */
public final class ReadmeTest {
    private static final Due due = new Due();
    private static final Pattern MADE = Pattern.compile("DrawShares x = new DrawShares\\((-?\\d+)\\);.*");
    private static final Pattern CALL = Pattern.compile("x\\.(\\w+)\\(([^)]*)\\); *// (-?\\d+|throws\\.\\w+)(:.*|$)");
    private static final Pattern ROW = Pattern.compile("\\| `(\\w+)\\(.*");

    private static int argument(String text) {
        return text.equals("DrawShares.NONE") ? DrawShares.NONE : Integer.parseInt(text);
    }

    private static Method method(String name) {
        for (Method m : DrawShares.class.getDeclaredMethods()) {
            if (Modifier.isPublic(m.getModifiers()) && m.getName().equals(name)) return m;
        }
        throw new RuntimeException("no such call: " + name);
    }

    private static String answer(DrawShares x, String name, String arguments) throws IllegalAccessException {
        String[] texts = arguments.isEmpty() ? new String[0] : arguments.split(", *");
        Object[] values = new Object[texts.length];
        for (int i = 0; i < texts.length; i++) {
            values[i] = argument(texts[i]);
        }
        try {
            return method(name).invoke(x, values).toString();
        } catch (InvocationTargetException e) {
            return "throws." + e.getCause().getClass().getSimpleName();
        }
    }

    public static void main(String[] args) throws IOException, IllegalAccessException {
        DrawShares x = null;
        Set<String> shown = new TreeSet<>();
        Set<String> listed = new TreeSet<>();
        for (String line : Files.readAllLines(Path.of("README.md"))) {
            Matcher made = MADE.matcher(line);
            Matcher call = CALL.matcher(line);
            Matcher row = ROW.matcher(line);
            if (made.matches()) {
                x = new DrawShares(Integer.parseInt(made.group(1)));
            } else if (call.matches()) {
                shown.add(call.group(1));
                due.same("README: " + line, call.group(3), x == null ? "no object" : answer(x, call.group(1), call.group(2)));
            } else if (row.matches()) {
                listed.add(row.group(1));
            } else {
                due.same("README: a call without an answer", "false", Boolean.toString(line.startsWith("x.")));
            }
        }
        Set<String> face = new TreeSet<>();
        for (Method m : DrawShares.class.getDeclaredMethods()) {
            if (Modifier.isPublic(m.getModifiers())) face.add(m.getName());
        }
        due.same("README: calls of the example", face.toString(), shown.toString());
        due.same("README: calls of the table", face.toString(), listed.toString());
        due.end();
    }
}
