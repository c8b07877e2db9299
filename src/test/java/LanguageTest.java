import java.io.IOException;
import java.lang.reflect.Executable;
import java.lang.reflect.Field;
import java.lang.reflect.Method;
import java.lang.reflect.Modifier;
import java.nio.charset.StandardCharsets;
import java.nio.file.Files;
import java.nio.file.Path;
import java.util.ArrayList;
import java.util.Arrays;
import java.util.List;
import java.util.Set;
import java.util.TreeSet;
import java.util.regex.Matcher;
import java.util.regex.Pattern;
import java.util.stream.Collectors;

/**
 * The rules of LANGUAGE.md that can be seen in the text of the class or in its compiled members. It is
 * stricter than they are where the class needs less than they leave.
 */
public final class LanguageTest {
    private static final Due due = new Due();
    private static final Set<String> STATIC_TYPES = Set.of("int", "long", "boolean", "char", "java.lang.String");
    private static final Set<String> IMPORTS = Set.of("java.util.Arrays");
    private static final Set<String> LIBRARY = Set.of("Arrays.fill", "Math.max", "Math.min");
    private static final Set<String> THROWN = Set.of(
        "IndexOutOfBoundsException", "IllegalStateException", "IllegalArgumentException");
    private static final String[] NOT_THERE = {
        "->", "::", "\\btry\\b", "\\bcatch\\b", "\\bfinally\\b", "\\bsynchronized\\b", "\\bassert\\b", "\\bvolatile\\b",
        "\\bnative\\b", "\\bdouble\\b", "\\bfloat\\b", "\\bvar\\b", "\\bpackage\\b", "\\bstatic\\s*\\{", "Exact\\b",
        "\\bwhile\\b", "\\bSystem\\b", "\\bThread\\b", "\\bRandom\\b", "\\bObject\\b", "\\binstanceof\\b", "@"};

    private static String source() throws IOException {
        return Files.readString(Path.of("src/main/java/DrawShares.java"), StandardCharsets.ISO_8859_1);
    }

    /** The code alone: what comments and texts say is no code. */
    private static String code(String source) {
        return source.replaceAll("(?s)/\\*.*?\\*/", "").replaceAll("//[^\\n]*", "").replaceAll("\"[^\"\\n]*\"", "\"\"");
    }

    private static List<String> found(String pattern, String code) {
        Matcher m = Pattern.compile(pattern).matcher(code);
        List<String> all = new ArrayList<>();
        while (m.find()) {
            all.add(m.groupCount() == 0 ? m.group() : m.group(1));
        }
        return all;
    }

    private static void onlyOf(String what, Set<String> allowed, List<String> got) {
        List<String> others = got.stream().filter(g -> !allowed.contains(g)).collect(Collectors.toList());
        due.same(what + " that are not allowed", "[]", others.toString());
    }

    private static void words(String code) {
        for (String pattern : NOT_THERE) {
            due.same("found of " + pattern, "[]", found(pattern, code).toString());
        }
        onlyOf("imports", IMPORTS, found("\\bimport\\s+([^;]+);", code));
        onlyOf("calls of the library", LIBRARY, found("\\b((?:Arrays|Math|Integer|Long|String|List)\\.\\w+)", code));
        // Each throw makes its exception with a written text or none.
        onlyOf("throws", THROWN, found("\\bthrow\\s+new\\s+(\\w+)\\((?:\"\")?\\);", code));
        due.same("all throws are of this form", Integer.toString(found("\\bthrow\\b", code).size()),
            Integer.toString(found("\\bthrow\\s+new\\s+\\w+\\((?:\"\")?\\);", code).size()));
        due.same("characters above 126", "[]", found("[^\\x0a\\x20-\\x7e]", code).toString());
    }

    /** Rule 11's lines, counted from a method's head to the brace that closes it. */
    private static void lengths(String source) {
        int longest = 0;
        int begin = -1;
        String close = "";
        String[] lines = source.split("\n");
        for (int i = 0; i < lines.length; i++) {
            Matcher head = Pattern.compile("^( +)(?:public|private)\\b[^;=]*\\([^;=]*").matcher(lines[i]);
            if (begin < 0 && head.matches()) {
                begin = i;
                close = head.group(1) + "}";
            } else if (begin >= 0 && lines[i].equals(close)) {
                longest = Math.max(longest, i - begin + 1);
                begin = -1;
            }
        }
        due.same("methods were found and are short", "true", Boolean.toString(longest > 5 && longest <= 60));
    }

    private static List<Class<?>> classes() {
        List<Class<?>> all = new ArrayList<>(List.of(DrawShares.class));
        all.addAll(Arrays.asList(DrawShares.class.getDeclaredClasses()));
        return all;
    }

    private static void members() {
        due.same("some twelve classes at most", "true", Boolean.toString(classes().size() <= 12));
        for (Class<?> c : classes()) {
            int fields = 0;
            for (Field f : c.getDeclaredFields()) {
                fields += Modifier.isStatic(f.getModifiers()) ? 0 : 1;
                staticIsConstant(c, f);
            }
            due.same(c.getName() + ": some twenty fields at most", "true", Boolean.toString(fields <= 20));
            List<Executable> all = new ArrayList<>(Arrays.asList(c.getDeclaredMethods()));
            all.addAll(Arrays.asList(c.getDeclaredConstructors()));
            for (Executable e : all) {
                due.same(e + ": at most seven parameters", "true", Boolean.toString(e.getParameterCount() <= 7));
            }
        }
        for (Class<?> c : DrawShares.class.getDeclaredClasses()) {
            int m = c.getModifiers();
            due.same(c.getName() + " is static", "true", Boolean.toString(Modifier.isStatic(m)));
            due.same(c.getName() + " is not for others", "false",
                Boolean.toString(Modifier.isPublic(m) || Modifier.isProtected(m)));
        }
    }

    private static void staticIsConstant(Class<?> c, Field f) {
        if (Modifier.isStatic(f.getModifiers())) {
            String name = c.getName() + "." + f.getName();
            due.same(name + " is final", "true", Boolean.toString(Modifier.isFinal(f.getModifiers())));
            due.same(name + " is of a constant's type", "true",
                Boolean.toString(STATIC_TYPES.contains(f.getType().getName())));
        }
    }

    /** Rule 1's last sentence, for the classes inside too. */
    private static void namesOfPrivateMethods() {
        Set<String> open = new TreeSet<>();
        for (Method m : DrawShares.class.getDeclaredMethods()) {
            if (Modifier.isPublic(m.getModifiers())) open.add(m.getName());
        }
        for (Class<?> c : classes()) {
            for (Method m : c.getDeclaredMethods()) {
                boolean twice = Modifier.isPrivate(m.getModifiers()) && open.contains(m.getName());
                due.same(c.getName() + "." + m.getName() + " bears a public one's name", "false", Boolean.toString(twice));
            }
        }
    }

    public static void main(String[] args) throws IOException {
        String source = source();
        words(code(source));
        lengths(source);
        members();
        namesOfPrivateMethods();
        due.end();
    }
}
