import java.util.Arrays;

/** The ERRORS: each by itself, each ahead of the later ones, and what a refused load leaves as it was. */
public final class ErrorsTest {
    public static void main(String[] args) {
        eachError();
        oneAheadOfTheRest();
        twoAheadOfTypes();
        threeAheadOfFour();
        threeAheadOfFive();
        fourAheadOfFive();
        typesInOrder();
        sixComesLast();
        sixOfEveryReference();
        whereItStood();
        typesStay();
        tapeIsUsedUp();
        Due.end("ErrorsTest");
    }

    private static final int BAD_NAME = 99;

    private static Text five() {
        return new Text().words(BAD_NAME, Text.info(2, 0, 0), 0);
    }

    private static Text four() {
        return new Text().words(0, Text.info(2, 0, 1), 0);
    }

    private static Text three() {
        return new Text().rawTypeBytes(0);
    }

    private static Text six() {
        return new Text().pointer(99);
    }

    private static void eachError() {
        Due.sentence("1 fewer than 24 bytes, or the first 12 not as told");
        Loads.refused("no bytes", 1, 0, new byte[0]);
        for (int k = 0; k < 12; k++) {
            byte[] good = Loads.small().done();
            Loads.refused("byte " + k, 1, 0, Loads.with(good, k, good[k] + 1));
        }
        Due.sentence("3 its bytes (with what follows by kind) do not lie within the T bytes");
        for (int n = 1; n < 12; n++) {
            Loads.refused(n + " bytes of a type", 3, 1, new Text().rawTypeBytes(new int[n]));
            Loads.refused(n + " bytes of a fifth type", 3, 5, Loads.small().rawTypeBytes(new int[n]));
        }
        Loads.refused("12 bytes of zeros do, and are no type", 4, 1, new Text().rawTypeBytes(new int[12]));
        for (int kind = 4; kind <= 13; kind += kind == 6 ? 7 : 1) {
            Loads.refused("V 65535 of kind " + kind, 3, 1,
                    new Text().words(0, Text.info(kind, 65535, 0), 4).words(new long[1500]));
        }
        Due.sentence("4 KIND or bits of it, V, FLAG, R (where it is no type) or what follows (of INT) not as told");
        Loads.refused("KIND", 4, 1, new Text().words(0, Text.info(14, 0, 0), 0));
        Loads.refused("bits of it", 4, 1, new Text().words(0, Text.info(2, 0, 0) | 1 << 29, 0));
        Loads.refused("V", 4, 1, new Text().words(0, Text.info(2, 1, 0), 0));
        Loads.refused("FLAG", 4, 1, four());
        Loads.refused("R", 4, 1, new Text().enumeration("e", 0, 3));
        Loads.refused("an INT of no bits", 4, 1, new Text().integer("i", 4, 0));
        Due.sentence("5 a name that is not within the strings, or empty or not as told");
        Loads.refused("not within", 5, 1, five());
        Loads.refused("empty", 5, 1, new Text().forward("", 0));
        Text named = new Text();
        Loads.refused("not empty", 5, 1, named.words(named.place("a"), Text.info(2, 0, 0), 0));
        Due.sentence("then 6 a type above N is told of by some type");
        Loads.refused("above", 6, 0, six());
    }

    private static void oneAheadOfTheRest() {
        Due.sentence("ERRORS, the first that holds: 1");
        byte[][] later = {Text.headed(0, 9, 1, 0), Text.headed(0, 0, 0), Text.headed(0, 0, 1, 7),
            three().done(), four().done(), five().done(), six().done()};
        for (byte[] text : later) {
            for (int k = 0; k < 12; k++) {
                Loads.refused("1 by byte " + k, 1, 0, Loads.with(text, k, text[k] ^ 0x40));
            }
        }
        Loads.refused("23 bytes of a text with S 0", 1, 0, Arrays.copyOf(Text.headed(0, 0, 0), 23));
    }

    private static void twoAheadOfTypes() {
        Due.sentence("2 at 16 (4) is not T, the text has another length than told, S is 0, or its first or last"
                + " byte is not 0");
        for (Text text : new Text[] {three(), four(), five(), six()}) {
            byte[] bytes = text.done();
            Loads.refused("at 16", 2, 0, Loads.with(bytes, 16, bytes[16] + 1));
            Loads.refused("one byte behind", 2, 0, Arrays.copyOf(bytes, bytes.length + 1));
            Loads.refused("one byte less", 2, 0, Arrays.copyOf(bytes, bytes.length - 1));
            Loads.refused("last byte of the strings", 2, 0, Loads.with(bytes, bytes.length - 1, 1));
            Loads.refused("S is 0", 2, 0, Loads.with(Arrays.copyOf(bytes, bytes.length - 1), 20, 0));
            text.letters("a");
            byte[] more = text.done();
            Loads.refused("first byte of the strings", 2, 0, Loads.with(more, more.length - 3, 1));
        }
    }

    private static void threeAheadOfFour() {
        Due.sentence("3 its bytes (with what follows by kind) do not lie within the T bytes; 4 KIND or bits of it,"
                + " V, FLAG, R");
        Loads.refused("bits that must be 0", 3, 1, new Text().words(0, 0x60ff0000L | Text.info(13, 1, 0), 0));
        Loads.refused("FLAG", 3, 1, new Text().words(0, Text.info(3, 0, 1), 0, 0, 0));
        Loads.refused("V", 3, 1, new Text().words(0, Text.info(3, 1, 0), 0, 0, 0));
        Loads.refused("R", 3, 1, new Text().words(0, Text.info(3, 0, 0), 1, 0, 0));
        Loads.refused("size of INT", 3, 1, new Text().words(0, Text.info(1, 0, 0), 3));
        Loads.refused("size of ENUM", 3, 1, new Text().words(0, Text.info(6, 1, 0), 3, 0));
        Loads.refused("KIND, of whose 12 bytes there are 11", 3, 1,
                new Text().words(0, Text.info(31, 0, 0)).rawTypeBytes(0, 0, 0));
        Loads.refused("too many values", 3, 1, new Text().words(0, Text.info(6, 601, 0), 4).words(new long[1201]));
        Loads.refused("too many values with others", 3, 2,
                TextTest.values(600).words(0, Text.info(6, 1, 0), 4, 0));
        Loads.refused("too many types", 3, 201, TextTest.pointers(200).rawTypeBytes(0));
        Loads.refused("too many types, by what follows", 3, 201,
                TextTest.pointers(200).words(0, Text.info(3, 0, 0), 0, 0, 0));
        Due.sentence("By kind there follow");
        Loads.refused("a POINTER's V has no bytes", 4, 1, new Text().words(0, Text.info(2, 65535, 0), 0));
        Loads.refused("a FUNCTION's V has no bytes", 4, 1, new Text().words(0, Text.info(12, 65535, 0), 0));
        Loads.refused("KIND 0 has no bytes behind", 4, 1, new Text().words(0, Text.info(0, 65535, 0), 0));
        Loads.refused("KIND 14 has no bytes behind", 4, 1, new Text().words(0, Text.info(14, 65535, 0), 0));
        Loads.refused("KIND 17 is no INT", 4, 1, new Text().words(0, Text.info(17, 0, 0), 4));
    }

    private static void threeAheadOfFive() {
        Due.sentence("then for each type in order: 3 its bytes (with what follows by kind) do not lie within the T"
                + " bytes");
        Loads.refused("a name behind the strings", 3, 1, new Text().words(BAD_NAME, Text.info(3, 0, 0), 0, 0, 0));
        Loads.refused("an empty name", 3, 1, new Text().words(0, Text.info(1, 0, 0), 4));
        Loads.refused("a member's name", 3, 1, new Text().words(0, Text.info(4, 1, 0), 0, BAD_NAME, 0));
        Loads.refused("11 bytes", 3, 1, new Text().words(BAD_NAME, Text.info(2, 0, 0)).rawTypeBytes(0, 0, 0));
    }

    private static void fourAheadOfFive() {
        Due.sentence("(this type being one too many, or having them); 5 a name that is not within the strings");
        Loads.refused("KIND", 4, 1, new Text().words(BAD_NAME, Text.info(14, 0, 0), 0));
        Loads.refused("bits of it", 4, 1, new Text().words(BAD_NAME, Text.info(2, 0, 0) | 1 << 16, 0));
        Loads.refused("V", 4, 1, new Text().words(BAD_NAME, Text.info(2, 1, 0), 0));
        Loads.refused("V of FUNCTION", 4, 1, new Text().words(0, Text.info(12, 3, 0), 0));
        Loads.refused("FLAG", 4, 1, new Text().words(BAD_NAME, Text.info(2, 0, 1), 0));
        Loads.refused("R of ARRAY", 4, 1, new Text().words(BAD_NAME, Text.info(3, 0, 0), 1, 0, 0, 0));
        Loads.refused("R of FORWARD", 4, 1, new Text().words(0, Text.info(7, 0, 0), 1));
        Loads.refused("R of INT", 4, 1, new Text().words(0, Text.info(1, 0, 0), 3, 8));
        Loads.refused("R of ENUM", 4, 1, new Text().words(0, Text.info(6, 1, 0), 3, BAD_NAME, 0));
        Loads.refused("what follows of INT", 4, 1, new Text().words(0, Text.info(1, 0, 0), 4, 0));
        Loads.refused("too many types", 4, 201, TextTest.pointers(200).words(BAD_NAME, Text.info(2, 0, 0), 0));
        Loads.refused("too many values", 4, 2,
                TextTest.values(600).words(BAD_NAME, Text.info(6, 1, 0), 4, BAD_NAME, 0));
    }

    private static void typesInOrder() {
        Due.sentence("then for each type in order");
        Loads.refused("5 of the first, 4 of the second", 5, 1, five().words(0, Text.info(2, 0, 1), 0));
        Loads.refused("5 of the first, 3 of the second", 5, 1, five().rawTypeBytes(0));
        Loads.refused("4 of the first, 3 of the second", 4, 1, four().rawTypeBytes(0));
        Loads.refused("4 of the second, 5 of the third", 4, 2,
                new Text().pointer(0).words(0, Text.info(2, 0, 1), 0).words(BAD_NAME, Text.info(2, 0, 0), 0));
        Loads.refused("5 of the 200th, too many types", 5, 200,
                TextTest.pointers(199).words(BAD_NAME, Text.info(2, 0, 0), 0).pointer(0));
        Loads.refused("5 of the first, too many values of the second", 5, 1, manyBehind(five(), 601));
        Loads.refused("too many values of the first, 5 of the second", 4, 1,
                TextTest.values(601).words(BAD_NAME, Text.info(2, 0, 0), 0));
    }

    private static Text manyBehind(Text text, int v) {
        return text.words(0, Text.info(6, v, 0), 4).words(new long[2 * v]);
    }

    private static void sixComesLast() {
        Due.sentence("5 a name that is not within the strings, or empty or not as told; then 6 a type above N");
        Loads.refused("3 of a later type", 3, 2, six().rawTypeBytes(0));
        Loads.refused("4 of a later type", 4, 2, six().words(0, Text.info(2, 0, 1), 0));
        Loads.refused("5 of a later type", 5, 2, six().words(BAD_NAME, Text.info(2, 0, 0), 0));
        Loads.refused("4 of the same type", 4, 1, new Text().words(0, Text.info(2, 0, 1), 99));
        Loads.refused("5 of the same type", 5, 1, new Text().words(BAD_NAME, Text.info(2, 0, 0), 99));
        Loads.refused("too many types", 4, 201, TextTest.pointers(200).pointer(999));
        Loads.refused("201 types, of which the first tells of the 201st", 4, 201, endless(201));
        Loads.taken("200 types, of which the first tells of the 200th", endless(200));
    }

    private static Text endless(int n) {
        Text text = new Text().pointer(n);
        for (int i = 2; i <= n; i++) {
            text.pointer(0);
        }
        return text;
    }

    private static void sixOfEveryReference() {
        Due.sentence("a type above N is told of by some type");
        for (long r : new long[] {0, 1, 2, 3, 4, 200, 201, 0x7fffffffL, 0x80000000L, 0xffffffffL}) {
            for (int kind : new int[] {2, 9, 10, 11}) {
                told("kind " + kind, r, TextTest.pointers(2).leaning(kind, r));
            }
            told("DEFINED", r, TextTest.pointers(2).defined("d", r));
            told("FUNCTION", r, TextTest.pointers(2).function("d", 0, r));
            told("elements'", r, TextTest.pointers(2).array(r, 0, 0));
            told("index's", r, TextTest.pointers(2).array(0, r, 0));
            told("first member's", r, TextTest.pointers(2).struct("", 0, "", r, 0, "", 0, 0));
            told("last member's", r, TextTest.pointers(2).struct("", 0, "", 0, 0, "", r, 0));
            told("UNION's", r, TextTest.pointers(2).composite(5, "", 0, 0, "", r, 0));
            told("gives", r, TextTest.pointers(2).prototype(r));
            told("first parameter's", r, TextTest.pointers(2).prototype(0, "", r, "", 0));
            told("last parameter's", r, TextTest.pointers(2).prototype(0, "", 0, "", r));
            told("the first type", r, new Text().pointer(r).pointer(0).pointer(0));
            Loads.taken("how many is no type", TextTest.pointers(2).array(0, 0, r));
            Loads.taken("a place is no type", TextTest.pointers(2).struct("", 0, "", 0, r));
            Loads.taken("a size is no type", TextTest.pointers(2).words(0, Text.info(4, 0, 0), r));
            Loads.taken("a value is no type", TextTest.pointers(2).enumeration("", 0, 4, "", r));
        }
        Loads.refused("the only type tells of a second", 6, 0, new Text().pointer(2));
    }

    /** There are three types. */
    private static void told(String what, long r, Text text) {
        Loads.judged(what + " type " + r, r <= 3, 6, 0, text);
    }

    private static void whereItStood() {
        Due.sentence("5 the number of the type that it stood at (from 1 on; 0 for errors 1, 2, 6 and without one)");
        for (int ahead : new int[] {0, 1, 9, 199}) {
            Loads.refused("3", 3, ahead + 1, TextTest.pointers(ahead).rawTypeBytes(0));
            Loads.refused("4", 4, ahead + 1, TextTest.pointers(ahead).words(0, Text.info(2, 0, 1), 0));
            Loads.refused("5", 5, ahead + 1, TextTest.pointers(ahead).words(BAD_NAME, Text.info(2, 0, 0), 0));
            Loads.refused("6", 6, 0, TextTest.pointers(ahead).pointer(ahead + 2));
        }
        TypeFold x = new TypeFold();
        for (byte[] next : new byte[][] {new byte[0], Text.headed(0, 0, 0), six().done(), Loads.small().done()}) {
            Due.is("4 at type 1", 4, Calls.load(x, four()));
            Due.is("it is told", 1, x.look(5));
            Calls.load(x, next);
            Due.is("0 behind it", 0, x.look(5));
        }
    }

    private static void typesStay() {
        Due.sentence("or its error, and the types stay");
        byte[][] refused = {new byte[0], Text.headed(0, 0, 0), three().done(), four().done(), five().done(),
            six().done(), TextTest.pointers(201).done(), TextTest.values(601).done()};
        int[] errors = {1, 2, 3, 4, 5, 6, 4, 4};
        for (int k = 0; k < errors.length; k++) {
            TypeFold x = Calls.loaded(Loads.small());
            byte[] folded = Calls.written(x);
            State before = new State(x);
            Due.is("refused", errors[k], Calls.load(x, refused[k]));
            before.holds("behind error " + errors[k], x, "look(4)", "look(5)");
            Due.same("the text", folded, Calls.written(x));
            Due.is("a name", 3, x.name(1));
            Due.is("its letters", 'i' | 'n' << 8 | 't' << 16, x.out(0));
            Calls.feedAll(x, "s");
            Due.is("found", 3, x.find(4, 1));
        }
        TypeFold none = new TypeFold();
        for (byte[] text : refused) {
            Calls.load(none, text);
            Due.is("no types stay none", 0, none.look(0));
            Due.is("nor classes", 0, none.look(1));
        }
        Due.sentence("The tape, which is used up, is the text: 0");
        TypeFold x = Calls.loaded(Loads.small());
        Due.is("fewer types", 0, Calls.load(x, TextTest.pointers(1)));
        Due.is("are the only ones", 1, x.look(0));
        Due.throwing("none is left of those before", java.util.NoSuchElementException.class, () -> x.type(2, 0));
        Due.is("no types at all", 0, Calls.load(x, new Text()));
        Due.is("N", 0, x.look(0));
        Due.is("classes", 0, x.look(1));
        Due.is("depth", 0, x.look(6));
        Due.throwing("nothing to write", IllegalStateException.class, x::write);
    }

    private static void tapeIsUsedUp() {
        Due.sentence("The tape, which is used up");
        TypeFold x = new TypeFold();
        for (Text text : new Text[] {three(), four(), five(), six(), Loads.small()}) {
            Calls.load(x, text);
            Due.is("tape", 0, x.look(2));
            Due.is("nothing is left to load", 1, x.load());
        }
        Calls.load(x, Text.headed(0, 0, 0));
        Due.is("a text behind a refused one", 0, Calls.load(x, Loads.small()));
        Due.is("a text behind a good one", 0, Calls.load(x, TextTest.pointers(7)));
        Due.is("is the latest", 7, x.look(0));
    }
}
