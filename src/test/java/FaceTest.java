import java.lang.reflect.Constructor;
import java.lang.reflect.Field;
import java.lang.reflect.Method;
import java.lang.reflect.Modifier;
import java.util.Set;
import java.util.TreeSet;

/** The public face is the document's, and nothing else of the class can be seen from outside. */
public final class FaceTest {
    private static final Set<String> FACE = Set.of(
            "int feed(int,long)", "int load()", "long type(int,int)", "int reference(int,int)",
            "int apart(int,int)", "long bytes(int)", "int find(int,int)", "int ring(int)", "int write()",
            "int name(int)", "long out(int)", "int look(int)");

    public static void main(String[] args) {
        Due.is("public", 1, Modifier.isPublic(TypeFold.class.getModifiers()) ? 1 : 0);
        Due.is("final", 1, Modifier.isFinal(TypeFold.class.getModifiers()) ? 1 : 0);
        Due.is("constructors", 1, TypeFold.class.getDeclaredConstructors().length);
        for (Constructor<?> c : TypeFold.class.getDeclaredConstructors()) {
            Due.is("parameters of the constructor", 0, c.getParameterCount());
            Due.is("public constructor", 1, Modifier.isPublic(c.getModifiers()) ? 1 : 0);
        }
        Set<String> seen = new TreeSet<>();
        for (Method m : TypeFold.class.getDeclaredMethods()) {
            if (!Modifier.isPrivate(m.getModifiers())) {
                seen.add(told(m));
            }
        }
        Due.is("methods: " + seen, 1, seen.equals(FACE) ? 1 : 0);
        for (Field f : TypeFold.class.getDeclaredFields()) {
            Due.is("private " + f, 1, Modifier.isPrivate(f.getModifiers()) ? 1 : 0);
        }
        Due.end("FaceTest");
    }

    private static String told(Method m) {
        StringBuilder all = new StringBuilder(m.getReturnType() + " " + m.getName() + "(");
        for (Class<?> p : m.getParameterTypes()) {
            all.append(all.charAt(all.length() - 1) == '(' ? "" : ",").append(p);
        }
        return all.append(")").toString();
    }
}
