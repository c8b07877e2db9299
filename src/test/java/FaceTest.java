import java.lang.reflect.Constructor;
import java.lang.reflect.Executable;
import java.lang.reflect.Field;
import java.lang.reflect.Member;
import java.lang.reflect.Method;
import java.lang.reflect.Modifier;
import java.util.Arrays;
import java.util.Set;
import java.util.TreeSet;
import java.util.stream.Collectors;

/** The class has the document's face and no other member that is not private. */
public final class FaceTest {
    private static final Set<String> FACE = new TreeSet<>(Set.of(
        "public static final int NONE",
        "public DrawShares(int)",
        "public int share(int,int,int,int) IndexOutOfBoundsException IllegalArgumentException",
        "public int fails(int,int,int) IndexOutOfBoundsException IllegalArgumentException",
        "public int act(int,int) IndexOutOfBoundsException IllegalStateException",
        "public int stop(int) IndexOutOfBoundsException",
        "public int run(int,int) IllegalArgumentException",
        "public long joined() IllegalStateException",
        "public int many() IllegalStateException",
        "public int value(int) IndexOutOfBoundsException IllegalStateException",
        "public long chain(int,int) IndexOutOfBoundsException",
        "public int came(int) IndexOutOfBoundsException IllegalStateException",
        "public int begun(int) IndexOutOfBoundsException IllegalStateException",
        "public int steps(int) IndexOutOfBoundsException IllegalStateException",
        "public int count(int) IndexOutOfBoundsException"));

    private static boolean seen(Member member) {
        return !Modifier.isPrivate(member.getModifiers());
    }

    private static String written(String head, Executable e) {
        String types = Arrays.stream(e.getParameterTypes()).map(Class::getName).collect(Collectors.joining(","));
        String thrown = Arrays.stream(e.getExceptionTypes()).map(t -> " " + t.getSimpleName()).collect(Collectors.joining());
        return Modifier.toString(e.getModifiers()) + " " + head + "(" + types + ")" + thrown;
    }

    public static void main(String[] args) {
        Due due = new Due();
        Set<String> got = new TreeSet<>();
        for (Field f : DrawShares.class.getDeclaredFields()) {
            if (seen(f)) got.add(Modifier.toString(f.getModifiers()) + " " + f.getType() + " " + f.getName());
            boolean fixed = !Modifier.isStatic(f.getModifiers()) || Modifier.isFinal(f.getModifiers());
            due.same("static field " + f.getName() + " is final", "true", Boolean.toString(fixed));
        }
        for (Constructor<?> c : DrawShares.class.getDeclaredConstructors()) {
            if (seen(c)) got.add(written("DrawShares", c));
        }
        for (Method m : DrawShares.class.getDeclaredMethods()) {
            if (seen(m)) got.add(written(m.getReturnType() + " " + m.getName(), m));
        }
        due.same("the face", FACE.toString(), got.toString());
        due.same("the class", "public final", Modifier.toString(DrawShares.class.getModifiers()));
        due.is("NONE", -1, () -> DrawShares.NONE);
        due.end();
    }
}
