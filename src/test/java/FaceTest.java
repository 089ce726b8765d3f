import java.lang.reflect.Constructor;
import java.lang.reflect.Field;
import java.lang.reflect.Method;
import java.lang.reflect.Modifier;
import java.util.Set;
import java.util.TreeSet;

/** The public face: what the document names, and nothing else that is not private. */
public final class FaceTest {
    public static void main(String[] args) {
        Checks c = new Checks();
        Class<?> face = LayoutFront.class;
        c.due("public final", true, Modifier.isPublic(face.getModifiers()) && Modifier.isFinal(face.getModifiers()));
        Set<String> members = new TreeSet<>();
        for (Field f : face.getDeclaredFields()) {
            if (!Modifier.isPrivate(f.getModifiers())) {
                members.add(f.toString());
            }
        }
        for (Constructor<?> k : face.getDeclaredConstructors()) {
            members.add(k.toString());
        }
        for (Method m : face.getDeclaredMethods()) {
            if (!Modifier.isPrivate(m.getModifiers())) {
                members.add(shown(m));
            }
        }
        Set<String> due = new TreeSet<>(Set.of(
                "public static final int LayoutFront.NONE",
                "public LayoutFront()",
                "int write(long,int) IllegalArgumentException IllegalStateException",
                "int erase()",
                "int fixity(long,int,int) IllegalArgumentException IllegalStateException",
                "int read() IllegalArgumentException IllegalStateException",
                "int place()",
                "int kind(int) IndexOutOfBoundsException",
                "long token(int) IndexOutOfBoundsException",
                "int count(int) IndexOutOfBoundsException"));
        c.due("members", due, members);
        c.due("NONE", -1, LayoutFront.NONE);
        c.end();
    }

    private static String shown(Method m) {
        StringBuilder s = new StringBuilder(m.getReturnType().getName()).append(' ').append(m.getName()).append('(');
        for (int i = 0; i < m.getParameterCount(); i++) {
            s.append(i == 0 ? "" : ",").append(m.getParameterTypes()[i].getName());
        }
        s.append(')');
        for (Class<?> e : m.getExceptionTypes()) {
            s.append(' ').append(e.getSimpleName());
        }
        return (Modifier.isPublic(m.getModifiers()) ? "" : "not public: ") + s;
    }
}
