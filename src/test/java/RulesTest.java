import java.lang.reflect.Field;
import java.lang.reflect.Method;
import java.lang.reflect.Modifier;
import java.util.ArrayList;
import java.util.List;
import java.util.Set;
import java.util.TreeSet;

/** Those rules of LANGUAGE.md that the compiled class shows. */
public final class RulesTest {
    public static void main(String[] args) {
        List<Class<?>> all = new ArrayList<>(List.of(TypeFold.class));
        all.addAll(List.of(TypeFold.class.getDeclaredClasses()));
        Due.holds("rule 11: classes are twelve at most", all.size() <= 12);
        for (Class<?> c : all) {
            if (c != TypeFold.class) {
                Due.is("rule 1: private and static: " + c, Modifier.PRIVATE | Modifier.STATIC,
                        c.getModifiers() & (Modifier.PRIVATE | Modifier.STATIC));
                Due.is("no class inside " + c, 0, c.getDeclaredClasses().length);
            }
            fields(c);
            methods(c);
        }
        Due.end("RulesTest");
    }

    private static void fields(Class<?> c) {
        int own = 0;
        for (Field f : c.getDeclaredFields()) {
            if (Modifier.isStatic(f.getModifiers())) {
                Due.holds("rule 5: final: " + f, Modifier.isFinal(f.getModifiers()));
            } else {
                own++;
            }
        }
        Due.holds("rule 11: fields are twenty at most: " + c, own <= 20);
    }

    private static void methods(Class<?> c) {
        Set<String> face = new TreeSet<>();
        for (Method m : TypeFold.class.getDeclaredMethods()) {
            if (Modifier.isPublic(m.getModifiers())) {
                face.add(m.getName());
            }
        }
        for (Method m : c.getDeclaredMethods()) {
            Due.holds("rule 11: parameters are seven at most: " + m, m.getParameterCount() <= 7);
            boolean shown = c == TypeFold.class && Modifier.isPublic(m.getModifiers());
            Due.holds("rule 1: bears no public method's name: " + m, shown || !face.contains(m.getName()));
            Due.holds("rule 2: no lambda: " + m, !m.isSynthetic());
        }
    }
}
