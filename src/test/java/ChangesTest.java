import java.util.ArrayList;
import java.util.Arrays;
import java.util.List;
import java.util.NoSuchElementException;
import java.util.function.Supplier;
import java.util.function.ToLongFunction;

/** What a call changes, and that a call that throws changes nothing, in states of every sort. */
public final class ChangesTest {
    private record Throwing(String call, Class<? extends RuntimeException> due, ToLongFunction<TypeFold> of) {
    }

    private static final List<Throwing> ALWAYS = new ArrayList<>();

    public static void main(String[] args) {
        gatherThrowing();
        Due.sentence("a call that throws changes nothing");
        throwsIn("a new object", TypeFold::new);
        throwsIn("an object with half a text on its tape", ChangesTest::halfFed);
        throwsIn("an object with types", () -> Calls.loaded(Loads.small()));
        throwsIn("an object with all", ChangesTest::withAll);
        throwsIn("an object behind an error", ChangesTest::behindError);
        throwsIn("an object with a full tape", ChangesTest::full);
        feedOnFullTape();
        writeWithoutTypes();
        onlyTheTapeByFeed();
        onlyTheTapeByFind();
        onlyOutByWriteAndName();
        loadLeavesOut();
        nothingByAsking();
        noCallLeansOnAnother();
        Due.end("ChangesTest");
    }

    private static void throwing(String call, Class<? extends RuntimeException> due, ToLongFunction<TypeFold> of) {
        ALWAYS.add(new Throwing(call, due, of));
    }

    /** Calls that throw in whatever state: no state here has more than 4 types or 200 bytes of OUT. */
    private static void gatherThrowing() {
        for (int i : new int[] {Integer.MIN_VALUE, -1, 5, 201, Integer.MAX_VALUE}) {
            throwing("type(" + i + ", 0)", NoSuchElementException.class, x -> x.type(i, 0));
            throwing("reference(" + i + ", 0)", NoSuchElementException.class, x -> x.reference(i, 0));
            throwing("apart(" + i + ", 0)", NoSuchElementException.class, x -> x.apart(i, 0));
            throwing("apart(0, " + i + ")", NoSuchElementException.class, x -> x.apart(0, i));
            throwing("bytes(" + i + ")", NoSuchElementException.class, x -> x.bytes(i));
            throwing("ring(" + i + ")", NoSuchElementException.class, x -> x.ring(i));
            throwing("name(" + i + ")", NoSuchElementException.class, x -> x.name(i));
            throwing("feed(" + (i == 5 ? 9 : i) + ", -1)", IllegalArgumentException.class,
                    x -> x.feed(i == 5 ? 9 : i, -1));
            throwing("find(" + (i == 5 ? 14 : i) + ", 1)", IllegalArgumentException.class,
                    x -> x.find(i == 5 ? 14 : i, 1));
            throwing("look(" + (i == 5 ? 7 : i) + ")", IllegalArgumentException.class, x -> x.look(i == 5 ? 7 : i));
            throwing("out(" + (i == 5 ? 200 : i == 201 ? 16384 : i) + ")", NoSuchElementException.class,
                    x -> x.out(i == 5 ? 200 : i == 201 ? 16384 : i));
            throwing("type(1, " + (i == 5 ? 8 : i) + ")", NoSuchElementException.class, x -> x.type(1, i == 5 ? 8 : i));
            throwing("reference(1, " + i + ")", NoSuchElementException.class, x -> x.reference(1, i));
        }
        throwing("type(0, 0)", NoSuchElementException.class, x -> x.type(0, 0));
        throwing("reference(0, 0)", NoSuchElementException.class, x -> x.reference(0, 0));
        throwing("ring(0)", NoSuchElementException.class, x -> x.ring(0));
        throwing("name(0)", NoSuchElementException.class, x -> x.name(0));
        throwing("feed(0, -1)", IllegalArgumentException.class, x -> x.feed(0, -1));
        throwing("find(0, 0)", IllegalArgumentException.class, x -> x.find(0, 0));
        throwing("find(0, -1)", IllegalArgumentException.class, x -> x.find(0, -1));
    }

    private static byte[] text() {
        return new Text().forward("later", 1).pointer(1).pointer(1).done();
    }

    private static TypeFold halfFed() {
        TypeFold x = new TypeFold();
        Calls.feedAll(x, Arrays.copyOf(text(), 29));
        return x;
    }

    private static TypeFold withAll() {
        TypeFold x = Calls.loaded(Loads.small());
        x.write();
        Calls.feedAll(x, Arrays.copyOf(text(), 29));
        return x;
    }

    private static TypeFold behindError() {
        TypeFold x = withAll();
        x.load();
        Calls.load(x, new Text().pointer(0).words(0, 0, 0));
        x.name(3);
        Calls.feedAll(x, Arrays.copyOf(text(), 29));
        return x;
    }

    private static TypeFold full() {
        TypeFold x = Calls.loaded(Loads.small());
        Calls.feedAll(x, new byte[8192]);
        return x;
    }

    /** Every throwing call by itself, then all that the object still does, beside a twin that was spared them. */
    private static void throwsIn(String what, Supplier<TypeFold> made) {
        TypeFold x = made.get();
        State before = new State(x);
        for (Throwing t : ALWAYS) {
            Due.throwing(t.call + " of " + what, t.due, () -> t.of.applyAsLong(x));
            before.holds(t.call + " of " + what, x);
        }
        goOnAlike(what, x, made.get());
    }

    private static void goOnAlike(String what, TypeFold x, TypeFold twin) {
        if (twin.look(0) > 0) {
            Due.same(what + ": written", Calls.written(twin), Calls.written(x));
        }
        if (twin.look(2) == 29) {
            byte[] rest = Arrays.copyOfRange(text(), 29, text().length);
            Due.is(what + ": the twin's load", 0, Calls.load(twin, rest));
            Due.is(what + ": load", 0, Calls.load(x, rest));
        } else {
            Due.is(what + ": load", twin.load(), x.load());
        }
        new State(twin).holds(what + ": behind a load", x);
    }

    private static void feedOnFullTape() {
        Due.sentence("feed: a call that throws changes nothing");
        TypeFold x = Calls.loaded(Loads.small());
        Text longest = new Text();
        longest.words(longest.letters("z".repeat(8192 - 24 - 12 - 2)), Text.info(7, 0, 0), 0);
        byte[] bytes = longest.done();
        Calls.feedAll(x, Arrays.copyOf(bytes, 8190));
        for (int n = 3; n <= 8; n++) {
            int more = n;
            State before = new State(x);
            Due.throwing("feed of " + n, IllegalStateException.class, () -> x.feed(more, -1));
            before.holds("feed of " + n, x);
        }
        x.feed(2, bytes[8190] & 255);
        for (int n = 1; n <= 8; n++) {
            int more = n;
            Due.throwing("feed of " + n + " to a full one", IllegalStateException.class, () -> x.feed(more, -1));
        }
        Due.is("the tape is the text still", 0, x.load());
        Due.same("byte by byte", bytes, Calls.written(x));
    }

    private static void writeWithoutTypes() {
        Due.sentence("write: a call that throws changes nothing");
        TypeFold x = Calls.loaded(new Text().forward("abc", 0));
        x.name(1);
        Calls.load(x, new Text());
        Calls.feedAll(x, text());
        State before = new State(x);
        for (int k = 0; k < 3; k++) {
            Due.throwing("write", IllegalStateException.class, x::write);
            before.holds("write", x);
        }
        Due.is("the tape is the text still", 0, x.load());
    }

    private static void onlyTheTapeByFeed() {
        Due.sentence("feed: Nothing is promised beyond the answers and state changes described above");
        TypeFold x = behindError();
        State before = new State(x);
        for (int n = 1; n <= 8; n++) {
            x.feed(n, 0x0102030405060708L);
            before.holds("feed of " + n, x, "look(2)");
        }
    }

    private static void onlyTheTapeByFind() {
        Due.sentence("find: Nothing is promised beyond the answers and state changes described above");
        TypeFold x = behindError();
        State before = new State(x);
        x.find(0, 1);
        before.holds("find of none", x, "look(2)");
        Due.is("the tape", 0, x.look(2));
        x.feed(1, 's');
        Due.is("find", 3, x.find(0, 1));
        before.holds("find", x, "look(2)");
        Due.is("the tape", 0, x.look(2));
        Due.is("what was fed is gone: an empty tape", 2, x.find(0, 1));
    }

    private static void onlyOutByWriteAndName() {
        Due.sentence("write: Nothing is promised beyond the answers and state changes described above");
        for (int turn = 0; turn < 2; turn++) {
            TypeFold x = behindError();
            x.name(2);
            State before = new State(x);
            Due.is("OUT", 0, x.look(3));
            Due.is("bytes", turn == 0 ? 24 + 64 + 11 : 3, turn == 0 ? x.write() : x.name(1));
            Due.is("OUT", turn == 0 ? 24 + 64 + 11 : 3, x.look(3));
            x.name(2);
            before.holds("behind it", x);
            goOnAlike("behind write and name", x, behindError());
        }
    }

    private static void loadLeavesOut() {
        Due.sentence("OUT: the bytes that were written latest.");
        TypeFold x = Calls.loaded(Loads.small());
        byte[] first = Calls.written(x);
        Calls.load(x, new Text().forward("other", 0));
        Due.same("behind a load", first, Calls.outOf(x));
        Calls.load(x, new Text().pointer(2));
        Due.same("behind a refused load", first, Calls.outOf(x));
        Due.is("a name", 5, x.name(1));
        Due.same("is OUT", new byte[] {'o', 't', 'h', 'e', 'r'}, Calls.outOf(x));
        Due.same("a text is OUT", new Text().forward("other", 0).done(), Calls.written(x));
    }

    private static void nothingByAsking() {
        Due.sentence("look: Nothing is promised beyond the answers and state changes described above");
        TypeFold x = withAll();
        State before = new State(x);
        before.holds("asked twice", x);
        before.holds("asked thrice", x);
        goOnAlike("behind all that", x, withAll());
    }

    /** A long life beside new objects: what an object was before a load tells nowhere behind it. */
    private static void noCallLeansOnAnother() {
        Due.sentence("load: The tape, which is used up, is the text");
        Text[] texts = {Loads.small(), TextTest.pointers(60), TextTest.values(600), new Text(),
            new Text().forward("abc", 1).struct("abc", 5, "x", 3, 0).pointer(2), TextTest.pointers(201),
            new Text().array(1, 1, 1), new Text().pointer(3), TextTest.values(1, 2, 3)};
        for (Text ahead : texts) {
            for (Text text : texts) {
                TypeFold x = new TypeFold();
                Calls.load(x, ahead);
                Calls.load(x, ahead);
                TypeFold fresh = new TypeFold();
                int error = Calls.load(fresh, text);
                Due.is("load", error, Calls.load(x, text));
                if (error == 0) {
                    new State(fresh).holds("as in a new object", x);
                }
                if (error == 0 && fresh.look(0) > 0) {
                    Due.same("written", Calls.written(fresh), Calls.written(x));
                }
            }
        }
    }
}
