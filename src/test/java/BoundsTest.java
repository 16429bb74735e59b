import java.util.Arrays;
import java.util.NoSuchElementException;

/** The bounds that the promises name, one after the other: the least, the greatest, one below, one above. */
public final class BoundsTest {
    private static final Class<IllegalArgumentException> ARGUMENT = IllegalArgumentException.class;
    private static final Class<IllegalStateException> STATE = IllegalStateException.class;
    private static final Class<NoSuchElementException> NONE = NoSuchElementException.class;
    private static final int LEAST = Integer.MIN_VALUE;
    private static final int MOST = Integer.MAX_VALUE;

    public static void main(String[] args) {
        newObject();
        feedsOfBytes();
        feedsToTheBrim();
        typesAndWhats();
        referencesInOrder();
        leadersAndNumbers();
        apartAtAll();
        apartByDepth();
        greatestDepth();
        bytesByKind();
        bytesOfRings();
        bytesOfMuch();
        bytesOfOthers();
        finds();
        ringSizes();
        writesNothing();
        writesFolded();
        writesNames();
        writesNoStrings();
        writesTooMuch();
        namesToOut();
        outsOfBytes();
        looks();
        Due.end("BoundsTest");
    }

    private static void newObject() {
        Due.sentence("There are no types at first (N 0).");
        TypeFold x = new TypeFold();
        Due.is("types", 0, x.look(0));
        Due.is("classes", 0, x.look(1));
        Due.throwing("no type", NONE, () -> x.type(1, 0));
        Due.throwing("no reference", NONE, () -> x.reference(1, 0));
        Due.throwing("no ring", NONE, () -> x.ring(1));
        Due.throwing("no name", NONE, () -> x.name(1));
        Due.throwing("nothing to write", STATE, x::write);
        Due.is("VOID is there", 0, x.apart(0, 0));
        Due.is("and has no bytes", -1, x.bytes(0));
        Due.throwing("but no type 1 beside it", NONE, () -> x.apart(0, 1));
        Due.throwing("nor bytes of it", NONE, () -> x.bytes(1));
        Due.is("nothing is found", 0, x.find(0, 1));
        Due.sentence("No types; OUT is empty.");
        Due.is("OUT", 0, new TypeFold().look(3));
        Due.throwing("no byte of OUT", NONE, () -> new TypeFold().out(0));
        Due.sentence("The TAPE has at most 8192 bytes, none at first.");
        Due.is("tape", 0, new TypeFold().look(2));
        Due.is("the first byte", 1, new TypeFold().feed(1, 0));
        Due.sentence("4 the latest load's error (0 before)");
        Due.is("error", 0, new TypeFold().look(4));
        Due.is("stood at", 0, new TypeFold().look(5));
        Due.sentence("the greatest depth to which two types that are not one are alike (0 without such)");
        Due.is("depth of none", 0, new TypeFold().look(6));
    }

    private static void feedsOfBytes() {
        Due.sentence("The n lowest bytes of v, lowest first, come behind the tape: how many it has.");
        int[] wanted = {0, 0x61, 0x6261, 0x636261};
        for (int n = 1; n <= 8; n++) {
            TypeFold x = Calls.loaded(new Text().forward("abcdefgh".substring(0, n), 0));
            Due.is("feed of " + n, n, x.feed(n, 0x6867666564636261L));
            Due.is("its letters, lowest first", 1, x.find(0, 1));
            Due.is("feed of one", 1, x.feed(1, 'a'));
            if (n > 1) {
                Due.is("feed of the rest behind it", n, x.feed(n - 1, 0x68676665646362L));
            }
            Due.is("letters of two feeds", 1, x.find(0, 1));
        }
        for (int n = 1; n < wanted.length; n++) {
            TypeFold x = Calls.loaded(new Text().forward("abc".substring(0, n), 0));
            x.feed(n, wanted[n] | -1L << 8 * n);
            Due.is("the bytes above are not fed", 1, x.find(0, 1));
        }
        TypeFold high = Calls.loaded(new Text().forward("\u0080\u00ff\u0080\u00ff\u0080\u00ff\u0080\u00ff", 0));
        high.feed(8, 0xff80ff80ff80ff80L);
        Due.is("bytes above 127", 1, high.find(0, 1));
        Due.sentence("Throws IllegalArgumentException when n is not 1 .. 8");
        TypeFold x = new TypeFold();
        for (int n : new int[] {LEAST, -8, -1, 0, 9, 10, 64, 257, MOST}) {
            Due.throwing("feed(" + n + ", 1)", ARGUMENT, () -> x.feed(n, 1));
            Due.is("the tape", 0, x.look(2));
        }
        Due.is("the least", 1, x.feed(1, Long.MIN_VALUE));
        Due.is("the greatest", 9, x.feed(8, Long.MAX_VALUE));
    }

    private static TypeFold fedWith(int bytes) {
        TypeFold x = new TypeFold();
        Calls.feedAll(x, new byte[bytes]);
        return x;
    }

    private static void feedsToTheBrim() {
        Due.sentence("IllegalStateException when it would have more than 8192");
        for (int n = 1; n <= 8; n++) {
            int more = n;
            Due.is("just 8192 by " + n, 8192, fedWith(8192 - n).feed(n, -1));
            TypeFold x = fedWith(8193 - n);
            Due.throwing("8193 by " + n, STATE, () -> x.feed(more, -1));
            Due.is("the tape stays", 8193 - n, x.look(2));
            TypeFold full = fedWith(8192);
            Due.throwing("a full tape and " + n, STATE, () -> full.feed(more, -1));
            Due.is("stays full", 8192, full.look(2));
            Due.is("is used up", 1, full.load());
            Due.is("and is fed anew", n, full.feed(n, -1));
        }
        Due.sentence("Of several exceptions that hold the one listed first is thrown");
        TypeFold full = fedWith(8192);
        for (int n : new int[] {LEAST, -1, 0, 9, MOST}) {
            Due.throwing("feed(" + n + ", 1) to a full tape", ARGUMENT, () -> full.feed(n, 1));
        }
        Due.sentence("whose name is the tape, which is used up");
        Due.is("no name is as long", 0, full.find(0, 1));
        Due.is("the tape is used up", 0, full.look(2));
    }

    private static void typesAndWhats() {
        Due.sentence("Of type i: 0 KIND, 1 V, 2 FLAG, 3 R, 4 how many references, 5 letters of its name, 6 its"
                + " leader, 7 its new number.");
        TypeFold x = Calls.loaded(new Text().forward("fw", 1).composite(5, "union", 1, 0xfffffffeL, "", 1, 0, "", 0, 0)
                .function("f", 2, 1).forward("fw", 1));
        long[][] want = {{7, 0, 1, 0, 0, 2, 1, 1}, {5, 2, 1, 0xfffffffeL, 2, 5, 2, 2}, {12, 2, 0, 1, 1, 1, 3, 3},
            {7, 0, 1, 0, 0, 2, 1, 1}};
        for (int i = 1; i <= 4; i++) {
            for (int what = 0; what <= 7; what++) {
                Due.is("type(" + i + ", " + what + ")", want[i - 1][what], x.type(i, what));
            }
        }
        Due.sentence("Throws NoSuchElementException when there is no such type (1 .. N) or what.");
        for (int i : new int[] {LEAST, -1, 0, 5, 200, 201, MOST}) {
            for (int what = -1; what <= 8; what++) {
                int w = what;
                Due.throwing("type(" + i + ", " + what + ")", NONE, () -> x.type(i, w));
            }
        }
        for (int what : new int[] {LEAST, -1, 8, 9, MOST}) {
            for (int i = 0; i <= 5; i++) {
                int j = i;
                Due.throwing("type(" + i + ", " + what + ")", NONE, () -> x.type(j, what));
            }
        }
        TypeFold all = Calls.loaded(TextTest.pointers(200));
        Due.is("type 200 of 200", 2, all.type(200, 0));
        Due.throwing("type 201 of 200", NONE, () -> all.type(201, 0));
    }

    private static void referencesInOrder() {
        Due.sentence("REFERENCES of a type, in order: 2, 8, 9, 10, 11, 12: R; 3: its elements', its index's type;"
                + " 4, 5: its members'; 13: R, then its parameters'.");
        Text text = new Text().pointer(14).integer("i", 4, 32).array(13, 12, 11).struct("s", 9, "a", 10, 9, "b", 8, 7)
                .composite(5, "", 0, 9, "a", 6, 5).enumeration("e", 0, 4, "v", 3).forward("f", 0).defined("d", 4)
                .leaning(9, 5).leaning(10, 6).leaning(11, 7).function("m", 1, 8).prototype(9, "p", 10, "q", 0)
                .struct("empty", 0);
        long[][] want = {{14}, {}, {13, 12}, {10, 8}, {6}, {}, {}, {4}, {5}, {6}, {7}, {8}, {9, 10, 0}, {}};
        TypeFold x = Calls.loaded(text);
        for (int i = 1; i <= want.length; i++) {
            Due.is("references of " + i, want[i - 1].length, x.type(i, 4));
            for (int k = 0; k < want[i - 1].length; k++) {
                Due.is("reference(" + i + ", " + k + ")", want[i - 1][k], x.reference(i, k));
            }
        }
        Due.sentence("Reference k of type i. Throws NoSuchElementException when there is none.");
        for (int i = 1; i <= want.length; i++) {
            for (int k : new int[] {LEAST, -1, want[i - 1].length, want[i - 1].length + 1, MOST}) {
                int j = i;
                Due.throwing("reference(" + i + ", " + k + ")", NONE, () -> x.reference(j, k));
            }
        }
        for (int i : new int[] {LEAST, -1, 0, 15, 200, 201, MOST}) {
            for (int k : new int[] {LEAST, -1, 0, 1, MOST}) {
                Due.throwing("reference(" + i + ", " + k + ")", NONE, () -> x.reference(i, k));
            }
        }
        TypeFold many = Calls.loaded(new Text().words(0, Text.info(13, 600, 0), 1).words(manyParameters()));
        Due.is("601 references", 601, many.type(1, 4));
        Due.is("the last but one", 0, many.reference(1, 599));
        Due.is("the last", 1, many.reference(1, 600));
        Due.throwing("one behind it", NONE, () -> many.reference(1, 601));
        mostReferences();
    }

    /** As many references as a text of 8192 bytes can have: 600 parameters, the rest ARRAYs. */
    private static void mostReferences() {
        Text text = new Text().words(0, Text.info(13, 600, 0), 1).words(manyParameters());
        for (int i = 2; i <= 140; i++) {
            text.array(i, 142 - i, i);
        }
        Due.is("so long is the text", 8173, text.done().length);
        TypeFold x = Calls.loaded(text);
        for (int i = 2; i <= 140; i++) {
            Due.is("elements' of " + i, i, x.reference(i, 0));
            Due.is("index's of " + i, 142 - i, x.reference(i, 1));
            Due.is("ring of " + i, i == 71 ? 1 : 2, x.ring(i));
        }
        Due.same("written", text.done(), Calls.written(x));
    }

    /** 600, of which the last alone has a type other than VOID. */
    private static long[] manyParameters() {
        long[] words = new long[1200];
        words[1199] = 1;
        return words;
    }

    private static void leadersAndNumbers() {
        Due.sentence("CLASSES: of types that are one; the LEADER is the one with the least number.");
        TypeFold x = Calls.loaded(new Text().pointer(0).forward("f", 0).pointer(0).forward("f", 0).forward("g", 0)
                .pointer(4).pointer(2).pointer(5));
        long[] leaders = {1, 2, 1, 2, 5, 6, 6, 8};
        long[] numbers = {1, 2, 1, 2, 3, 4, 4, 5};
        for (int i = 1; i <= leaders.length; i++) {
            Due.is("leader of " + i, leaders[i - 1], x.type(i, 6));
            Due.is("new number of " + i, numbers[i - 1], x.type(i, 7));
        }
        Due.is("classes", 5, x.look(1));
        TypeFold one = Calls.loaded(TextTest.pointers(200));
        Due.is("200 in one class", 1, one.look(1));
        Due.is("leader of the last", 1, one.type(200, 6));
        Due.is("its new number", 1, one.type(200, 7));
        TypeFold all = Calls.loaded(chain(200));
        Due.is("200 classes", 200, all.look(1));
        Due.is("the last leads itself", 200, all.type(200, 6));
        Due.is("and keeps its number", 200, all.type(200, 7));
    }

    /** Pointers, each to the next, the last to VOID. */
    private static Text chain(int n) {
        Text text = new Text();
        for (int i = 1; i <= n; i++) {
            text.pointer(i == n ? 0 : i + 1);
        }
        return text;
    }

    private static void apartAtAll() {
        Due.sentence("The least depth to which two types (0 .. N) are not alike; 0 when they are one.");
        TypeFold x = Calls.loaded(Loads.small());
        for (int i = 0; i <= 4; i++) {
            Due.is("apart from itself: " + i, 0, x.apart(i, i));
        }
        Due.is("one", 0, x.apart(2, 4));
        Due.is("one, the other way", 0, x.apart(4, 2));
        Due.is("not alike to depth 1", 1, x.apart(1, 3));
        Due.sentence("VOID is alike with VOID alone, to depth 1 and more");
        for (int i = 1; i <= 4; i++) {
            Due.is("VOID and " + i, 1, x.apart(0, i));
            Due.is(i + " and VOID", 1, x.apart(i, 0));
        }
        TypeFold y = Calls.loaded(new Text().pointer(0).pointer(0).pointer(1));
        Due.is("two of VOID", 0, y.apart(1, 2));
        Due.is("of VOID and of another", 2, y.apart(1, 3));
        Due.sentence("apart: Throws NoSuchElementException when there is no such type.");
        for (int i : new int[] {LEAST, -1, 5, 200, 201, MOST}) {
            for (int j : new int[] {LEAST, -1, 0, 1, 4, 5, MOST}) {
                Due.throwing("apart(" + i + ", " + j + ")", NONE, () -> x.apart(i, j));
                Due.throwing("apart(" + j + ", " + i + ")", NONE, () -> x.apart(j, i));
            }
        }
        TypeFold all = Calls.loaded(chain(200));
        Due.is("type 200 of 200", 1, all.apart(200, 0));
        Due.throwing("type 201 of 200", NONE, () -> all.apart(201, 0));
    }

    private static void apartByDepth() {
        Due.sentence("Two types are ALIKE to depth 0 always; to depth d + 1 if their labels are the same, and"
                + " their references, in order, alike to depth d");
        TypeFold x = Calls.loaded(chain(200));
        for (int i = 1; i <= 200; i++) {
            for (int j = i + 1; j <= 200; j++) {
                Due.is("apart(" + i + ", " + j + ")", 202 - j, x.apart(i, j));
            }
            Due.is("apart(" + i + ", 0)", 1, x.apart(i, 0));
        }
        Due.is("the deepest of 200 types", 200, x.apart(1, 2));
        TypeFold later = Calls.loaded(new Text().struct("s", 0, "a", 3, 0, "b", 4, 0)
                .struct("s", 0, "a", 4, 0, "b", 3, 0).struct("t", 0).struct("u", 0)
                .struct("s", 0, "a", 3, 0, "b", 3, 0));
        Due.is("references in order", 2, later.apart(1, 2));
        Due.is("the last one alone", 2, later.apart(1, 5));
        Due.is("the first one alone", 2, later.apart(2, 5));
        Due.sentence("They are ONE if they are alike to every depth.");
        Text rings = new Text();
        for (int i = 1; i <= 199; i++) {
            rings.pointer(i % 199 + 1);
        }
        TypeFold y = Calls.loaded(rings.pointer(200));
        Due.is("a ring of 199 and one of 1", 0, y.apart(77, 200));
        Due.is("are one class", 1, y.look(1));
        Text other = new Text();
        for (int i = 1; i <= 198; i++) {
            other.defined(i == 198 ? "z" : "a", i % 198 + 1);
        }
        TypeFold z = Calls.loaded(other.defined("a", 199));
        Due.is("a ring with one other name, 197 ahead of it", 198, z.apart(1, 199));
        Due.is("just ahead of it", 2, z.apart(197, 199));
        Due.is("it itself", 1, z.apart(198, 199));
    }

    private static void greatestDepth() {
        Due.sentence("6 the greatest depth to which two types that are not one are alike (0 without such)");
        Due.is("one type", 0, Calls.loaded(new Text().pointer(0)).look(6));
        Due.is("two that are one", 0, Calls.loaded(TextTest.pointers(2)).look(6));
        Due.is("two whose labels differ", 0, Calls.loaded(new Text().pointer(0).leaning(9, 0)).look(6));
        Due.is("two that differ by VOID", 1, Calls.loaded(new Text().pointer(0).pointer(1)).look(6));
        for (int n : new int[] {2, 3, 50, 199, 200}) {
            Due.is("a chain of " + n, n - 1, Calls.loaded(chain(n)).look(6));
        }
        TypeFold x = Calls.loaded(chain(200));
        Due.is("behind a load of others", 0, Calls.load(x, TextTest.pointers(3)));
        Due.is("it is theirs", 0, x.look(6));
        Calls.load(x, chain(9));
        Due.is("behind a load of none", 0, Calls.load(x, new Text()));
        Due.is("it is 0", 0, x.look(6));
    }

    private static void bytesByKind() {
        Due.sentence("How many bytes a type has: INT, STRUCT, UNION, ENUM R; POINTER 8; ARRAY its number times its"
                + " elements'");
        for (int r : new int[] {1, 2, 4, 8, 16}) {
            Due.is("INT", r, Calls.loaded(new Text().integer("i", r, 1)).bytes(1));
        }
        for (int r : new int[] {1, 2, 4, 8}) {
            Due.is("ENUM", r, Calls.loaded(new Text().enumeration("e", 0, r)).bytes(1));
        }
        for (long r : new long[] {0, 1, 0x80000000L, 0xffffffffL}) {
            Due.is("STRUCT", r, Calls.loaded(new Text().composite(4, "", 0, r)).bytes(1));
            Due.is("UNION", r, Calls.loaded(new Text().composite(5, "", 0, r)).bytes(1));
        }
        Due.is("POINTER to VOID", 8, Calls.loaded(new Text().pointer(0)).bytes(1));
        Due.is("POINTER to itself", 8, Calls.loaded(new Text().pointer(1)).bytes(1));
        TypeFold x = Calls.loaded(new Text().integer("i", 4, 8).array(1, 0, 0).array(1, 0, 1).array(1, 0, 7)
                .array(4, 0, 3).array(0, 1, 3).struct("none", 0).array(7, 0, 0xffffffffL).array(2, 0, 0xffffffffL));
        long[] want = {-1, 4, 0, 4, 28, 84, -1, 0, 0, 0};
        for (int i = 0; i < want.length; i++) {
            Due.is("ARRAYs: bytes(" + i + ")", want[i], x.bytes(i));
        }
        Due.sentence("DEFINED, VOLATILE, CONST, RESTRICT what theirs has");
        TypeFold y = Calls.loaded(new Text().integer("i", 16, 8).defined("d", 1).leaning(9, 2).leaning(10, 3)
                .leaning(11, 4).array(5, 0, 2).leaning(10, 6).array(7, 0, 2).pointer(0).leaning(9, 9));
        long[] theirs = {-1, 16, 16, 16, 16, 16, 32, 32, 64, 8, 8};
        for (int i = 0; i < theirs.length; i++) {
            Due.is("bytes(" + i + ")", theirs[i], y.bytes(i));
        }
        Text through = new Text();
        for (int i = 1; i < 200; i++) {
            through.leaning(9 + i % 3, i + 1);
        }
        Due.is("through 199 others", 2, Calls.loaded(through.integer("i", 2, 3)).bytes(1));
    }

    private static void bytesOfRings() {
        Due.sentence("for what comes to itself so without a POINTER");
        for (int kind : new int[] {8, 9, 10, 11}) {
            Text itself = new Text();
            itself.words(itself.place(kind == 8 ? "d" : ""), Text.info(kind, 0, 0), 1);
            Due.is("kind " + kind + " of itself", -1, Calls.loaded(itself).bytes(1));
        }
        for (long number : new long[] {0, 1, 0xffffffffL}) {
            Due.is("ARRAY of itself", -1, Calls.loaded(new Text().array(1, 0, number)).bytes(1));
        }
        Due.is("ARRAY indexed by itself", 8, Calls.loaded(new Text().array(2, 1, 1).pointer(1)).bytes(1));
        TypeFold x = Calls.loaded(new Text().defined("d", 2).array(3, 0, 0).leaning(10, 1).leaning(9, 1)
                .array(4, 0, 0).pointer(1).array(6, 0, 2).struct("s", 12, "s", 9, 0).leaning(11, 8)
                .defined("p", 11).pointer(10));
        long[] want = {-1, -1, -1, -1, -1, -1, 8, 16, 12, 12, 8, 8};
        for (int i = 0; i < want.length; i++) {
            Due.is("bytes(" + i + ")", want[i], x.bytes(i));
        }
        Text all = new Text();
        for (int i = 1; i <= 200; i++) {
            all.leaning(10, i % 200 + 1);
        }
        Due.is("a ring of 200", -1, Calls.loaded(all).bytes(200));
    }

    private static void bytesOfMuch() {
        Due.sentence("for more than 1000000000000");
        long most = 1000000000000L;
        TypeFold x = Calls.loaded(new Text()
                .struct("a", 1000000).array(1, 0, 999999).array(1, 0, 1000000).array(1, 0, 1000001)
                .struct("b", 1).array(5, 0, 0xffffffffL).array(6, 0, 232).array(6, 0, 233)
                .array(3, 0, 1).array(3, 0, 2).array(3, 0, 0xffffffffL).composite(5, "u", 0, 0xffffffffL)
                .array(12, 0, 232).array(12, 0, 233).array(12, 0, 0xffffffffL).array(15, 0, 0xffffffffL)
                .struct("c", 999999999).array(17, 0, 1000).array(17, 0, 1001)
                .struct("d", 99990001).array(20, 0, 10001).array(20, 0, 10000));
        long[] want = {-1, 1000000, 999999000000L, most, -1, 1, 0xffffffffL, 996432412440L, -1, most, -1, -1,
            0xffffffffL, 996432412440L, -1, -1, -1, 999999999, 999999999000L, -1,
            99990001, -1, 999900010000L};
        for (int i = 0; i < want.length; i++) {
            Due.is("bytes(" + i + ")", want[i], x.bytes(i));
        }
        TypeFold wraps = Calls.loaded(new Text().composite(4, "s", 0, 0x80000000L).array(1, 0, 0x80000000L)
                .array(2, 0, 4).array(1, 0, 466).array(1, 0, 465).array(4, 0, 0));
        long[] round = {-1, 0x80000000L, -1, -1, -1, 998579896320L, -1};
        for (int i = 0; i < round.length; i++) {
            Due.is("products that go round: bytes(" + i + ")", round[i], wraps.bytes(i));
        }
    }

    private static void bytesOfOthers() {
        Due.sentence("-1 for others");
        TypeFold x = Calls.loaded(new Text().forward("f", 0).function("m", 0, 3).prototype(4).integer("i", 4, 8));
        for (int i = 0; i <= 3; i++) {
            Due.is("bytes(" + i + ")", -1, x.bytes(i));
        }
        Due.is("bytes(4)", 4, x.bytes(4));
        Due.sentence("and for what has its bytes of one that has -1");
        for (int base = 0; base <= 3; base++) {
            Text text = new Text().forward("f", 0).function("m", 0, 3).prototype(0).defined("d", base)
                    .leaning(9, base).leaning(10, base).leaning(11, base).array(base, 0, 1).array(base, 0, 0)
                    .leaning(10, 8).array(9, 0, 0);
            TypeFold y = Calls.loaded(text);
            for (int i = 4; i <= 11; i++) {
                Due.is("bytes(" + i + ") by " + base, -1, y.bytes(i));
            }
        }
        Due.sentence("bytes: Throws NoSuchElementException when there is no such type (0 .. N).");
        for (int i : new int[] {LEAST, -1, 5, 200, 201, MOST}) {
            Due.throwing("bytes(" + i + ")", NONE, () -> x.bytes(i));
        }
        TypeFold all = Calls.loaded(TextTest.pointers(200));
        Due.is("bytes(200) of 200", 8, all.bytes(200));
        Due.throwing("bytes(201) of 200", NONE, () -> all.bytes(201));
    }

    private static void found(int want, TypeFold x, String name, int kind, int i) {
        Calls.feedAll(x, name);
        Due.is("find(" + kind + ", " + i + ") of '" + name + "'", want, x.find(kind, i));
        Due.is("the tape behind it", 0, x.look(2));
    }

    private static void finds() {
        TypeFold x = Calls.loaded(new Text().forward("a", 0).struct("a", 0, "m", 0, 0).pointer(0).struct("a", 0)
                .struct("ab", 0).struct("", 0).forward("\u00ff\u0001\u0080", 0).defined("a", 0));
        Due.sentence("The least type from i on whose name is the tape, which is used up, of a kind (0: of any)");
        int[] from = {1, 2, 4, 4, 8, 8, 8, 8};
        int[] structs = {2, 2, 4, 4, 0, 0, 0, 0};
        for (int i = 1; i <= 8; i++) {
            found(from[i - 1], x, "a", 0, i);
            found(structs[i - 1], x, "a", 4, i);
        }
        for (int kind = 0; kind <= 13; kind++) {
            found(kind == 0 || kind == 7 ? 1 : kind == 4 ? 2 : kind == 8 ? 8 : 0, x, "a", kind, 1);
        }
        Text ends = new Text();
        int abc = ends.letters("abc");
        TypeFold inside = Calls.loaded(ends.words(abc, Text.info(7, 0, 0), 0).words(abc + 1, Text.info(7, 0, 0), 0));
        found(2, inside, "bc", 0, 1);
        found(1, inside, "abc", 0, 1);
        found(5, x, "ab", 0, 1);
        found(7, x, "\u00ff\u0001\u0080", 0, 1);
        Due.sentence("whose name is the tape");
        found(3, x, "", 0, 1);
        found(6, x, "", 4, 1);
        found(6, x, "", 0, 4);
        found(0, x, "", 0, 7);
        Text late = new Text();
        int end = late.letters("a") + 1;
        late.words(end - 1, Text.info(7, 0, 0), 0).words(end, Text.info(2, 0, 0), 0).words(end, Text.info(6, 0, 0), 4);
        TypeFold y = Calls.loaded(late);
        found(2, y, "", 0, 1);
        found(3, y, "", 6, 1);
        Due.sentence("0 without one");
        for (String name : new String[] {"m", "b", "abc", "a\0", "\0", "\0a", "aa", "A"}) {
            found(0, x, name, 0, 1);
        }
        for (int i : new int[] {9, 200, 201, MOST}) {
            found(0, x, "a", 0, i);
            found(0, x, "", 0, i);
        }
        found(8, x, "a", 8, 8);
        Due.sentence("Throws IllegalArgumentException when the kind is not 0 .. 13 or i below 1.");
        x.feed(1, 'a');
        for (int kind : new int[] {LEAST, -1, 14, 31, MOST}) {
            for (int i : new int[] {LEAST, 0, 1, MOST}) {
                Due.throwing("find(" + kind + ", " + i + ")", ARGUMENT, () -> x.find(kind, i));
            }
        }
        for (int i : new int[] {LEAST, -1, 0}) {
            for (int kind : new int[] {0, 1, 13}) {
                Due.throwing("find(" + kind + ", " + i + ")", ARGUMENT, () -> x.find(kind, i));
            }
        }
        Due.is("the tape stays", 1, x.look(2));
        Due.is("as it was", 1, x.find(0, 1));
    }

    private static void ringSizes() {
        Due.sentence("How many types come to each other by references, type i among them (i itself, too).");
        TypeFold x = Calls.loaded(new Text().pointer(0).pointer(2).pointer(4).pointer(3).pointer(3)
                .struct("s", 0, "a", 0, 0, "b", 7, 0).array(1, 6, 1).prototype(9, "", 0).pointer(8).function("f", 0, 11)
                .prototype(1, "", 1, "", 10).pointer(12).array(14, 0, 1).composite(5, "", 0, 0, "", 13, 0));
        int[] want = {1, 1, 2, 2, 1, 2, 2, 2, 2, 2, 2, 1, 2, 2};
        for (int i = 1; i <= want.length; i++) {
            Due.is("ring(" + i + ")", want[i - 1], x.ring(i));
        }
        Text all = new Text();
        Text back = new Text();
        for (int i = 1; i <= 200; i++) {
            all.pointer(i % 200 + 1);
            back.pointer(i == 1 ? 200 : i - 1);
        }
        for (int i : new int[] {1, 2, 199, 200}) {
            Due.is("a ring of all", 200, Calls.loaded(all).ring(i));
            Due.is("a ring of all, the other way round", 200, Calls.loaded(back).ring(i));
            Due.is("a chain", 1, Calls.loaded(chain(200)).ring(i));
        }
        ringsOfManyReferences();
        ringsBehindAnotherLoad();
        Due.sentence("ring: Throws NoSuchElementException when there is no such type (1 .. N).");
        for (int i : new int[] {LEAST, -1, 0, 15, 200, 201, MOST}) {
            Due.throwing("ring(" + i + ")", NONE, () -> x.ring(i));
        }
    }

    private static void ringsOfManyReferences() {
        Text text = new Text().words(0, Text.info(4, 300, 0), 0);
        for (int k = 0; k < 299; k++) {
            text.words(0, 2, k);
        }
        TypeFold x = Calls.loaded(text.words(0, 3, 0).pointer(0).pointer(4).pointer(1));
        Due.is("by the last of 300 references", 3, x.ring(1));
        Due.is("not by the others", 1, x.ring(2));
        Due.is("and back", 3, x.ring(4));
    }

    private static void ringsBehindAnotherLoad() {
        Text all = new Text();
        for (int i = 1; i <= 200; i++) {
            all.pointer(i % 200 + 1);
        }
        for (int n : new int[] {1, 2, 5, 50, 100, 199}) {
            TypeFold x = Calls.loaded(all);
            Due.is("a ring of all", 200, x.ring(n));
            Due.is("a chain behind it", 0, Calls.load(x, chain(n)));
            for (int i = 1; i <= n; i++) {
                Due.is("ring(" + i + ") of the chain", 1, x.ring(i));
            }
            Due.is("types of VOID and a ring behind it", 0, Calls.load(x, TextTest.pointers(n).pointer(n + 1)));
            for (int i = 1; i <= n + 1; i++) {
                Due.is("ring(" + i + ") of these", 1, x.ring(i));
            }
            Due.is("all again", 0, Calls.load(x, all));
            Due.is("are a ring again", 200, x.ring(n));
        }
    }

    private static void writesNothing() {
        Due.sentence("write: Throws IllegalStateException when there are no types.");
        TypeFold x = new TypeFold();
        Due.throwing("at first", STATE, x::write);
        Due.is("a refused load", 6, Calls.load(x, new Text().pointer(2)));
        Due.throwing("behind a refused load", STATE, x::write);
        Due.is("a load of no types", 0, Calls.load(x, new Text()));
        Due.throwing("behind a load of none", STATE, x::write);
        Due.is("OUT", 0, x.look(3));
        Due.is("a load of one", 0, Calls.load(x, new Text().pointer(0)));
        Due.is("one type", 24 + 12 + 1, x.write());
        Due.is("a load of no types again", 0, Calls.load(x, new Text()));
        Due.throwing("behind it", STATE, x::write);
        Due.is("OUT stays", 24 + 12 + 1, x.look(3));
        Due.same("as it was", new Text().pointer(0).done(), Calls.outOf(x));
    }

    private static void writesFolded() {
        Due.sentence("FOLDED: the leaders, in rising order, numbered from 1 on, each as it was read, its types"
                + " being the new numbers of their leaders");
        Text text = new Text().pointer(4).pointer(3).forward("f", 1).forward("f", 1).prototype(2, "a", 1, "", 0)
                .array(2, 4, 5).struct("s", 7, "x", 6, 1, "y", 5, 2).enumeration("e", 1, 8, "v", -1, "w", 1)
                .pointer(2).integer("i", 16, 0x0f7f0001);
        Text due = new Text().pointer(2).forward("f", 1).prototype(1, "a", 1, "", 0).array(1, 2, 5)
                .struct("s", 7, "x", 4, 1, "y", 3, 2).enumeration("e", 1, 8, "v", -1, "w", 1).pointer(1)
                .integer("i", 16, 0x0f7f0001);
        Due.same("written", due.done(), Calls.written(Calls.loaded(text)));
        Due.same("what is folded already", due.done(), Calls.written(Calls.loaded(due)));
        Due.same("200 as one", new Text().pointer(0).done(), Calls.written(Calls.loaded(TextTest.pointers(200))));
        Due.same("200 as 200", chain(200).done(), Calls.written(Calls.loaded(chain(200))));
        Due.same("600 values", TextTest.values(600).done(), Calls.written(Calls.loaded(TextTest.values(600))));
    }

    private static void writesNames() {
        Due.sentence("names are places of strings written anew: the first byte is 0");
        Due.is("no names at all", 24 + 12 + 1, Calls.loaded(new Text().pointer(0)).write());
        Due.sentence("in the order in which the types so written tell of them (each type's own, then what follows");
        Text text = new Text();
        text.letters("unused");
        int two = text.letters("two");
        int one = text.letters("one");
        int again = text.letters("two");
        text.words(one, Text.info(4, 3, 0), 0, two, 0, 0, one, 0, 1, two + 1, 0, 2);
        text.words(again, Text.info(7, 0, 0), 0).words(one + 2, Text.info(7, 0, 0), 0);
        Text due = new Text().struct("one", 0, "two", 0, 0, "one", 0, 1, "wo", 0, 2).forward("two", 0).forward("e", 0);
        Due.same("own, then what follows", due.done(), Calls.written(Calls.loaded(text)));
        Due.sentence("the empty one not), each once, with a 0 behind");
        Text empties = new Text();
        int end = empties.letters("a") + 1;
        empties.words(end, Text.info(4, 2, 0), 0, end, 0, 0, 0, 0, 0).words(0, Text.info(2, 0, 0), 0);
        Due.same("empty names wherever", new Text().struct("", 0, "", 0, 0, "", 0, 0).pointer(0).done(),
                Calls.written(Calls.loaded(empties)));
    }

    /** What lies behind the last type may look like a place, and is none. */
    private static void writesNoStrings() {
        Due.sentence("then the names in the order in which the types so written tell of them");
        for (int kind : new int[] {4, 5, 6, 13}) {
            Text text = new Text();
            text.letters("\u0001");
            text.letters("");
            text.letters("x".repeat(300));
            text.words(0, Text.info(kind, 1, 0), kind == 6 ? 4 : 0, 0, 0).words(new long[kind < 6 ? 1 : 0]);
            Due.is("no name of kind " + kind, 24 + text.typeBytes() + 1, Calls.loaded(text).write());
        }
    }

    /** One run of letters, each FORWARD being named by its end from some letter on. */
    private static Text endsOf(int letters, int... lengths) {
        Text text = new Text();
        int at = text.letters("x".repeat(letters));
        for (int n : lengths) {
            text.words(at + letters - n, Text.info(7, 0, 0), 0);
        }
        return text;
    }

    /** 24 and 12 for each of 20 types and 1, then the names, each with a 0 behind. */
    private static Text writtenIn(int bytes) {
        int[] lengths = new int[20];
        int rest = bytes - 24 - 240 - 1;
        for (int k = 0; k < 19; k++) {
            lengths[k] = 820 - k;
            rest -= lengths[k] + 1;
        }
        lengths[19] = rest - 1;
        return endsOf(1500, lengths);
    }

    private static void writesTooMuch() {
        Due.sentence("OUT becomes the text of the types folded: how many bytes; -1 when these would be more than"
                + " 16384");
        for (int bytes : new int[] {16383, 16384}) {
            TypeFold x = Calls.loaded(writtenIn(bytes));
            Due.is("just " + bytes, bytes, x.write());
            Due.is("OUT has them", bytes, x.look(3));
            Due.is("the last one", 0, x.out(bytes - 1));
            Due.is("a letter and the last one", 'x', x.out(bytes - 2));
        }
        Due.sentence("(OUT stays)");
        for (int bytes : new int[] {16385, 16386, 17000}) {
            TypeFold x = Calls.loaded(writtenIn(16384));
            x.write();
            Due.is("a load", 0, Calls.load(x, writtenIn(bytes)));
            State before = new State(x);
            Due.is("would be " + bytes, -1, x.write());
            before.holds("behind it", x);
            x.name(20);
            byte[] name = Calls.outOf(x);
            Due.is("again", -1, x.write());
            Due.same("the name stays", name, Calls.outOf(x));
        }
        TypeFold none = Calls.loaded(writtenIn(16385));
        Due.is("with an empty OUT", -1, none.write());
        Due.is("it stays empty", 0, none.look(3));
        int[] many = new int[200];
        Arrays.fill(many, 5000);
        Due.is("they are folded first", 24 + 12 + 1 + 5001, Calls.loaded(endsOf(5000, many)).write());
        for (int k = 0; k < 200; k++) {
            many[k] = 5000 - k;
        }
        Due.is("a million", -1, Calls.loaded(endsOf(5000, many)).write());
    }

    private static void namesToOut() {
        Due.sentence("OUT becomes the name of type i: how many bytes.");
        TypeFold x = Calls.loaded(new Text().forward("abcdefgh\u00ffj", 0).pointer(1).forward("z", 0));
        Due.is("a longer one", 10, x.name(1));
        Due.same("its bytes", new byte[] {'a', 'b', 'c', 'd', 'e', 'f', 'g', 'h', -1, 'j'}, Calls.outOf(x));
        Due.is("a shorter one", 1, x.name(3));
        Due.same("nothing of the longer", new byte[] {'z'}, Calls.outOf(x));
        Due.is("0 behind its end", 'z', x.out(0));
        Due.is("an empty one", 0, x.name(2));
        Due.is("OUT is empty", 0, x.look(3));
        Due.is("behind a text", 24 + 36 + 14, x.write());
        Due.is("the last type's", 1, x.name(3));
        Due.is("OUT has it alone", 1, x.look(3));
        Due.sentence("name: Throws NoSuchElementException when there is no such type (1 .. N).");
        for (int i : new int[] {LEAST, -1, 0, 4, 200, 201, MOST}) {
            Due.throwing("name(" + i + ")", NONE, () -> x.name(i));
            Due.same("OUT stays", new byte[] {'z'}, Calls.outOf(x));
        }
    }

    private static void outsOfBytes() {
        Due.sentence("Eight bytes of OUT from k on, lowest first (0 behind its end).");
        for (int n = 1; n <= 17; n++) {
            TypeFold x = Calls.loaded(new Text().forward("\u0081\u00ff".repeat(9).substring(0, n), 0));
            Due.is("name", n, x.name(1));
            for (int k = 0; k < n; k++) {
                long want = k % 2 == 0 ? 0xff81ff81ff81ff81L : 0x81ff81ff81ff81ffL;
                Due.is("out(" + k + ") of " + n, n - k >= 8 ? want : want & (1L << 8 * (n - k)) - 1, x.out(k));
            }
            for (int k : new int[] {LEAST, -8, -1, n, n + 1, 16383, 16384, MOST - 7, MOST}) {
                Due.throwing("out(" + k + ") of " + n, NONE, () -> x.out(k));
            }
        }
        Due.sentence("out: Throws NoSuchElementException when there is no byte k.");
        TypeFold x = Calls.loaded(writtenIn(16384));
        Due.throwing("an empty OUT", NONE, () -> x.out(0));
        x.write();
        Due.is("the last of 16384", 0, x.out(16383));
        Due.throwing("one behind", NONE, () -> x.out(16384));
        x.name(20);
        Due.throwing("what was written before is gone", NONE, () -> x.out(16383));
    }

    private static void looks() {
        Due.sentence("0 N, 1 classes, 2 bytes of the tape, 3 of OUT, 4 the latest load's error");
        TypeFold x = Calls.loaded(Loads.small());
        x.feed(7, 0);
        x.name(1);
        int[] want = {4, 3, 7, 3, 0, 0, 0};
        for (int what = 0; what <= 6; what++) {
            Due.is("look(" + what + ")", want[what], x.look(what));
        }
        Due.is("an error", 1, x.load());
        Due.is("is told", 1, x.look(4));
        x.feed(1, 0);
        x.find(0, 1);
        x.write();
        Due.is("until the next load", 1, x.look(4));
        Due.is("a good one", 0, Calls.load(x, Loads.small()));
        Due.is("is none", 0, x.look(4));
        Due.sentence("look: Throws IllegalArgumentException for another what.");
        for (int what : new int[] {LEAST, -1, 7, 8, MOST}) {
            Due.throwing("look(" + what + ")", ARGUMENT, () -> x.look(what));
        }
    }
}
