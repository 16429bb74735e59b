import com.sun.management.ThreadMXBean;
import java.lang.management.ManagementFactory;
import java.lang.reflect.Array;
import java.lang.reflect.Field;
import java.lang.reflect.Modifier;
import java.util.Collections;
import java.util.IdentityHashMap;
import java.util.Set;

/** All memory is made once, in the constructor, and 512 objects of a run fit into its room together. */
public final class RoomTest {
    private static final int FIELDS_AND_ELEMENTS = 7300000;
    private static final int OBJECTS = 600000;
    private static final int ROUNDS = 2000;

    private final Set<Object> seen = Collections.newSetFromMap(new IdentityHashMap<>());
    private int parts = 0;

    public static void main(String[] args) throws IllegalAccessException {
        Due.sentence("All memory is the class's own, made once.");
        TypeFold x = new TypeFold();
        RoomTest before = new RoomTest();
        before.count(x);
        Due.holds("parts fit: " + before.parts, 512 * before.parts <= FIELDS_AND_ELEMENTS);
        Due.holds("objects fit: " + before.seen.size(), 512 * before.seen.size() <= OBJECTS);
        for (int loads = 0; loads < 4; loads++) {
            Calls.load(x, new Text().pointer(2).struct("s", 8, "p", 1, 0).pointer(2));
            x.write();
            x.name(2);
            x.ring(1);
            x.bytes(1);
            Calls.load(x, new Text().pointer(9));
        }
        RoomTest after = new RoomTest();
        after.count(x);
        Due.is("parts stay", before.parts, after.parts);
        before.seen.removeAll(after.seen);
        Due.is("objects are the same", 0, before.seen.size());
        callsMakeNothing();
        Due.end("RoomTest");
    }

    /** What a call makes and lets go can't be found by looking at the object: the JVM counts it. */
    private static void callsMakeNothing() {
        ThreadMXBean threads = (ThreadMXBean) ManagementFactory.getThreadMXBean();
        TypeFold x = new TypeFold();
        byte[] good = Loads.small().done();
        byte[] refused = new Text().pointer(9).done();
        everyCall(x, good, refused);
        long before = threads.getCurrentThreadAllocatedBytes();
        for (int k = 0; k < ROUNDS; k++) {
            everyCall(x, good, refused);
        }
        long made = threads.getCurrentThreadAllocatedBytes() - before;
        Due.holds("calls make less than one object a round: bytes made " + made, made < 8 * ROUNDS);
    }

    private static void everyCall(TypeFold x, byte[] good, byte[] refused) {
        Calls.load(x, good);
        Calls.load(x, refused);
        for (int what = 0; what < 8; what++) {
            x.type(1, what);
        }
        for (int what = 0; what < 7; what++) {
            x.look(what);
        }
        x.reference(2, 0);
        x.apart(2, 4);
        x.bytes(3);
        x.find(0, 1);
        x.ring(3);
        x.write();
        x.out(0);
        x.name(1);
    }

    private void count(Object o) throws IllegalAccessException {
        if (o == null || !seen.add(o)) {
            return;
        }
        if (o.getClass().isArray()) {
            parts += Array.getLength(o);
            return;
        }
        for (Field f : o.getClass().getDeclaredFields()) {
            if (!Modifier.isStatic(f.getModifiers())) {
                parts++;
                f.setAccessible(true);
                if (!f.getType().isPrimitive()) {
                    count(f.get(o));
                }
            }
        }
    }
}
