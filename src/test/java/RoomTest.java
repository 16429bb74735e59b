import java.lang.reflect.Array;
import java.lang.reflect.Field;
import java.lang.reflect.Modifier;
import java.util.Collections;
import java.util.IdentityHashMap;
import java.util.Set;

/** All memory is made once, in the constructor, and 512 objects of a run fit into its room together. */
public final class RoomTest {
    private static final int FIELDS_AND_ELEMENTS = 7300000;
    private static final int OBJECTS = 600000;

    private final Set<Object> seen = Collections.newSetFromMap(new IdentityHashMap<>());
    private int parts = 0;

    public static void main(String[] args) throws IllegalAccessException {
        TypeFold x = new TypeFold();
        RoomTest before = new RoomTest();
        before.count(x);
        Due.is("parts fit: " + before.parts, 1, 512 * before.parts <= FIELDS_AND_ELEMENTS ? 1 : 0);
        Due.is("objects fit: " + before.seen.size(), 1, 512 * before.seen.size() <= OBJECTS ? 1 : 0);
        for (int loads = 0; loads < 4; loads++) {
            Calls.load(x, new Text().pointer(2).struct("s", 8, "p", 1, 0).pointer(2));
            x.write();
            x.name(2);
            x.ring(1);
            x.bytes(1);
            Calls.load(x, new Text().pointer(9));
        }
        RoomTest after = new RoomTest();
        after.count(x);
        Due.is("parts stay", before.parts, after.parts);
        before.seen.removeAll(after.seen);
        Due.is("objects are the same", 0, before.seen.size());
        Due.end("RoomTest");
    }

    private void count(Object o) throws IllegalAccessException {
        if (o == null || !seen.add(o)) {
            return;
        }
        if (o.getClass().isArray()) {
            parts += Array.getLength(o);
            return;
        }
        for (Field f : o.getClass().getDeclaredFields()) {
            if (!Modifier.isStatic(f.getModifiers())) {
                parts++;
                f.setAccessible(true);
                if (!f.getType().isPrimitive()) {
                    count(f.get(o));
                }
            }
        }
    }
}
