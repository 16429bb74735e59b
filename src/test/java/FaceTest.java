import java.lang.reflect.Constructor;
import java.lang.reflect.Field;
import java.lang.reflect.Method;
import java.lang.reflect.Modifier;
import java.util.Set;
import java.util.TreeSet;

/** The public face is the document's, and nothing else of the class can be seen from outside. */
public final class FaceTest {
    private static final Set<String> FACE = Set.of(
            "int feed(int,long) throws IllegalArgumentException IllegalStateException",
            "int load()",
            "long type(int,int) throws NoSuchElementException",
            "int reference(int,int) throws NoSuchElementException",
            "int apart(int,int) throws NoSuchElementException",
            "long bytes(int) throws NoSuchElementException",
            "int find(int,int) throws IllegalArgumentException",
            "int ring(int) throws NoSuchElementException",
            "int write() throws IllegalStateException",
            "int name(int) throws NoSuchElementException",
            "long out(int) throws NoSuchElementException",
            "int look(int) throws IllegalArgumentException");

    public static void main(String[] args) {
        Due.holds("public", Modifier.isPublic(TypeFold.class.getModifiers()));
        Due.holds("final", Modifier.isFinal(TypeFold.class.getModifiers()));
        Due.is("constructors", 1, TypeFold.class.getDeclaredConstructors().length);
        for (Constructor<?> c : TypeFold.class.getDeclaredConstructors()) {
            Due.is("parameters of the constructor", 0, c.getParameterCount());
            Due.holds("public constructor", Modifier.isPublic(c.getModifiers()));
        }
        Set<String> seen = new TreeSet<>();
        for (Method m : TypeFold.class.getDeclaredMethods()) {
            if (!Modifier.isPrivate(m.getModifiers())) {
                seen.add(told(m));
            }
        }
        Due.holds("methods: " + seen, seen.equals(FACE));
        for (Field f : TypeFold.class.getDeclaredFields()) {
            Due.holds("private " + f, Modifier.isPrivate(f.getModifiers()));
        }
        Due.end("FaceTest");
    }

    private static String told(Method m) {
        StringBuilder all = new StringBuilder(m.getReturnType() + " " + m.getName() + "(");
        for (Class<?> p : m.getParameterTypes()) {
            all.append(all.charAt(all.length() - 1) == '(' ? "" : ",").append(p);
        }
        all.append(m.getExceptionTypes().length == 0 ? ")" : ") throws");
        for (Class<?> e : m.getExceptionTypes()) {
            all.append(" ").append(e.getSimpleName());
        }
        return all.toString();
    }
}
