import java.lang.reflect.Constructor;
import java.lang.reflect.Field;
import java.lang.reflect.Method;
import java.lang.reflect.Modifier;
import java.util.Arrays;
import java.util.HashSet;
import java.util.Set;
import java.util.TreeSet;

/** The public face is that of the document, and nothing else is seen from outside. */
public final class FaceTest {
    private static final String[] FACE = {
        "int type(long) IllegalStateException",
        "void keep(int) IllegalArgumentException",
        "int poke(int, int) IndexOutOfBoundsException IllegalArgumentException",
        "int at(int) IndexOutOfBoundsException",
        "int make(int, int, int, int, int, int) IllegalArgumentException",
        "int sum() IllegalStateException",
        "int route(int, int, int) IllegalArgumentException IllegalStateException",
        "int peer(int, int) IndexOutOfBoundsException",
        "void meant(int, int, int) IllegalArgumentException",
        "int policy(int, int, int, int, int, int) IllegalArgumentException IllegalStateException",
        "int seal(int, int, int, long, long, boolean, int) IndexOutOfBoundsException IllegalArgumentException"
            + " IllegalStateException",
        "boolean stop(int) IndexOutOfBoundsException",
        "long count(int, long) IndexOutOfBoundsException IllegalArgumentException",
        "int come(int) IllegalArgumentException",
        "int meaning(int) IllegalArgumentException",
        "int routed(int)",
        "int sent(int, int) IndexOutOfBoundsException",
        "int take(int) IndexOutOfBoundsException IllegalStateException",
        "int told(int, int) IndexOutOfBoundsException",
        "long top(int) IndexOutOfBoundsException",
        "long seen(int) IndexOutOfBoundsException",
        "int tick()",
        "int log(int, int) IndexOutOfBoundsException",
        "int ended(int) IndexOutOfBoundsException",
        "void clear()",
    };

    private static String told(Method m) {
        StringBuilder s = new StringBuilder(m.getReturnType() + " " + m.getName() + "(");
        s.append(String.join(", ", Arrays.stream(m.getParameterTypes()).map(Class::getName).toList())).append(")");
        for (Class<?> e : m.getExceptionTypes()) {
            s.append(" ").append(e.getSimpleName());
        }
        return s.toString();
    }

    public static void main(String[] args) {
        Due due = new Due("FaceTest");
        Class<?> c = SealedGateway.class;
        due.is("the class is public and final", c.getModifiers() & (Modifier.PUBLIC | Modifier.FINAL),
            Modifier.PUBLIC | Modifier.FINAL);
        Set<String> want = new TreeSet<>(Arrays.asList(FACE));
        Set<String> names = new HashSet<>();
        for (Method m : c.getDeclaredMethods()) {
            if (!Modifier.isPrivate(m.getModifiers())) {
                due.is("of the document: " + told(m), want.remove(told(m)) && Modifier.isPublic(m.getModifiers()), true);
                names.add(m.getName());
            }
        }
        due.is("not there: " + want, want.size(), 0);
        for (Method m : c.getDeclaredMethods()) {
            if (Modifier.isPrivate(m.getModifiers())) {
                due.is("a private method has the name " + m.getName(), names.contains(m.getName()), false);
            }
        }
        for (Field f : c.getDeclaredFields()) {
            boolean isNone = f.getName().equals("NONE");
            due.is("field " + f.getName() + " is seen", Modifier.isPrivate(f.getModifiers()), !isNone);
        }
        for (Constructor<?> k : c.getDeclaredConstructors()) {
            due.is("constructor " + k, Arrays.equals(k.getParameterTypes(), new Class<?>[] {int.class})
                && Modifier.isPublic(k.getModifiers()), true);
        }
        due.is("NONE", SealedGateway.NONE, -1);
        due.finish();
    }
}
