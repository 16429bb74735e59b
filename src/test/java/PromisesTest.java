import java.util.NoSuchElementException;

/**
 * The promises of the document in their order, with ordinary inputs and some wrong ones; what the document
 * bounds is in TextTest, ErrorsTest, BoundsTest and ChangesTest.
 */
public final class PromisesTest {
    private static final Class<IllegalArgumentException> ARGUMENT = IllegalArgumentException.class;
    private static final Class<IllegalStateException> STATE = IllegalStateException.class;
    private static final Class<NoSuchElementException> NONE = NoSuchElementException.class;

    public static void main(String[] args) {
        promise1();
        promise2();
        promise3();
        promise4();
        promise5();
        promise6();
        promise6Labels();
        promise7();
        promise8();
        promise9();
        promise10();
        promise10Names();
        promise11();
        promise12();
        promise13();
        Due.end("PromisesTest");
    }

    private static void promise1() {
        Due.sentence("Promise 1: A new object");
        TypeFold x = new TypeFold();
        for (int what = 0; what <= 6; what++) {
            Due.is("new look " + what, 0, x.look(what));
        }
        Due.is("new apart(0, 0)", 0, x.apart(0, 0));
        Due.is("new bytes(0)", -1, x.bytes(0));
        Due.is("new find", 0, x.find(0, 1));
        Due.throwing("new type(1, 0)", NONE, () -> x.type(1, 0));
        Due.throwing("new type(0, 0)", NONE, () -> x.type(0, 0));
        Due.throwing("new reference(1, 0)", NONE, () -> x.reference(1, 0));
        Due.throwing("new apart(0, 1)", NONE, () -> x.apart(0, 1));
        Due.throwing("new bytes(1)", NONE, () -> x.bytes(1));
        Due.throwing("new ring(1)", NONE, () -> x.ring(1));
        Due.throwing("new write", STATE, x::write);
        Due.throwing("new name(1)", NONE, () -> x.name(1));
        Due.throwing("new out(0)", NONE, () -> x.out(0));
    }

    private static void promise2() {
        Due.sentence("Promise 2: feed");
        TypeFold x = new TypeFold();
        int sum = 0;
        for (int n = 1; n <= 8; n++) {
            sum += n;
            Due.is("feed " + n, sum, x.feed(n, -1));
        }
        Due.throwing("feed 0 bytes", ARGUMENT, () -> x.feed(0, 1));
        Due.throwing("feed 9 bytes", ARGUMENT, () -> x.feed(9, 1));
        Due.throwing("feed -1 bytes", ARGUMENT, () -> x.feed(-1, 1));
        Due.throwing("feed least", ARGUMENT, () -> x.feed(Integer.MIN_VALUE, 1));
        Due.throwing("feed most", ARGUMENT, () -> x.feed(Integer.MAX_VALUE, 1));
        Due.is("tape behind refused feeds", sum, x.look(2));
        lowestBytesOnly();
    }

    private static void lowestBytesOnly() {
        TypeFold x = Calls.loaded(new Text().forward("abcdefgh", 0).forward("abc", 0).forward("\u00ff\u0080", 0));
        x.feed(3, 0x7766554433636261L);
        Due.is("feed takes the lowest, lowest first", 2, x.find(0, 1));
        x.feed(8, 0x6867666564636261L);
        Due.is("feed takes all eight", 1, x.find(0, 1));
        x.feed(2, 0x80ff);
        Due.is("feed takes bytes above 127", 3, x.find(0, 1));
        x.feed(1, 'a');
        x.feed(2, 'b' | 'c' << 8);
        Due.is("feeds come behind one another", 2, x.find(0, 1));
    }

    private static void promise3() {
        Due.sentence("Promise 3: load");
        TypeFold x = new TypeFold();
        Due.is("a good text", 0, Calls.load(x, Loads.small()));
        Due.is("its types", 4, x.look(0));
        Due.is("the tape is used up", 0, x.look(2));
        Due.is("a refused text", 6, Calls.load(x, new Text().pointer(2)));
        Due.is("the types stay", 4, x.look(0));
        Due.is("the tape is used up again", 0, x.look(2));
        Due.is("another good text", 0, Calls.load(x, new Text().pointer(0)));
        Due.is("has the types now", 1, x.look(0));
    }

    private static void is(TypeFold x, int i, long... want) {
        for (int what = 0; what < want.length; what++) {
            Due.is("type(" + i + ", " + what + ")", want[what], x.type(i, what));
        }
    }

    private static void promise4() {
        Due.sentence("Promise 4: type");
        TypeFold x = Calls.loaded(new Text()
                .integer("int", 4, 32)
                .pointer(14)
                .array(1, 2, 7)
                .struct("", 12, "m", 1, 0)
                .composite(5, "u", 1, 0xffffffffL, "a", 1, 0, "b", 14, 5)
                .enumeration("colour", 1, 8, "red", -1, "green", 2, "blue", 3)
                .forward("fw", 1)
                .defined("d", 14)
                .leaning(9, 1)
                .leaning(10, 0)
                .leaning(11, 2)
                .function("main", 2, 13)
                .prototype(1, "argc", 1, "", 0)
                .pointer(14));
        is(x, 1, 1, 0, 0, 4, 0, 3, 1, 1);
        is(x, 2, 2, 0, 0, 14, 1, 0, 2, 2);
        is(x, 3, 3, 0, 0, 0, 2, 0, 3, 3);
        is(x, 4, 4, 1, 0, 12, 1, 0, 4, 4);
        is(x, 5, 5, 2, 1, 0xffffffffL, 2, 1, 5, 5);
        is(x, 6, 6, 3, 1, 8, 0, 6, 6, 6);
        is(x, 7, 7, 0, 1, 0, 0, 2, 7, 7);
        is(x, 8, 8, 0, 0, 14, 1, 1, 8, 8);
        is(x, 9, 9, 0, 0, 1, 1, 0, 9, 9);
        is(x, 10, 10, 0, 0, 0, 1, 0, 10, 10);
        is(x, 11, 11, 0, 0, 2, 1, 0, 11, 11);
        is(x, 12, 12, 2, 0, 13, 1, 4, 12, 12);
        is(x, 13, 13, 2, 0, 1, 3, 0, 13, 13);
        is(x, 14, 2, 0, 0, 14, 1, 0, 2, 2);
        for (int i : new int[] {0, -1, 15, Integer.MAX_VALUE, Integer.MIN_VALUE}) {
            Due.throwing("type(" + i + ", 0)", NONE, () -> x.type(i, 0));
        }
        for (int what : new int[] {-1, 8, Integer.MAX_VALUE, Integer.MIN_VALUE}) {
            Due.throwing("type(1, " + what + ")", NONE, () -> x.type(1, what));
        }
        TypeFold y = Calls.loaded(new Text().pointer(4).pointer(0).pointer(0).integer("i", 1, 8).pointer(4).pointer(2));
        long[] leaders = {1, 2, 2, 4, 1, 6};
        long[] numbers = {1, 2, 2, 3, 1, 4};
        for (int i = 1; i <= 6; i++) {
            Due.is("leader of " + i, leaders[i - 1], y.type(i, 6));
            Due.is("new number of " + i, numbers[i - 1], y.type(i, 7));
        }
    }

    private static void promise5() {
        Due.sentence("Promise 5: reference");
        TypeFold x = Calls.loaded(new Text()
                .array(3, 2, 9)
                .struct("s", 0, "a", 4, 1, "b", 0, 2, "c", 2, 3)
                .prototype(4, "p", 1, "q", 0)
                .enumeration("e", 0, 4, "v", 1)
                .pointer(5));
        long[][] want = {{3, 2}, {4, 0, 2}, {4, 1, 0}, {}, {5}};
        for (int i = 1; i <= want.length; i++) {
            int type = i;
            Due.is("references of " + i, want[i - 1].length, x.type(i, 4));
            for (int k = 0; k < want[i - 1].length; k++) {
                Due.is("reference(" + i + ", " + k + ")", want[i - 1][k], x.reference(i, k));
            }
            Due.throwing("reference behind the last", NONE, () -> x.reference(type, want[type - 1].length));
            Due.throwing("reference -1", NONE, () -> x.reference(type, -1));
        }
        Due.throwing("reference of 0", NONE, () -> x.reference(0, 0));
        Due.throwing("reference of 6", NONE, () -> x.reference(6, 0));
        Due.throwing("reference of -1", NONE, () -> x.reference(-1, 0));
        Due.throwing("reference most", NONE, () -> x.reference(1, Integer.MAX_VALUE));
        Due.throwing("reference least", NONE, () -> x.reference(1, Integer.MIN_VALUE));
    }

    private static void promise6() {
        Due.sentence("Promise 6: apart");
        TypeFold x = Calls.loaded(Loads.small());
        Due.is("apart from itself", 0, x.apart(3, 3));
        Due.is("VOID from VOID", 0, x.apart(0, 0));
        Due.is("one", 0, x.apart(2, 4));
        Due.is("labels differ", 1, x.apart(1, 2));
        Due.is("VOID differs", 1, x.apart(0, 2));
        Due.is("VOID differs, the other way", 1, x.apart(2, 0));
        for (int i : new int[] {-1, 5, Integer.MAX_VALUE, Integer.MIN_VALUE}) {
            Due.throwing("apart(" + i + ", 1)", NONE, () -> x.apart(i, 1));
            Due.throwing("apart(1, " + i + ")", NONE, () -> x.apart(1, i));
        }
        chains();
        rings();
        refersToVoid();
    }

    /** 200 pointers, each to the next, the last to VOID: i and j differ where the later one ends. */
    private static void chains() {
        Text text = new Text();
        for (int i = 1; i <= 200; i++) {
            text.pointer(i == 200 ? 0 : i + 1);
        }
        TypeFold x = Calls.loaded(text);
        for (int i = 1; i < 200; i += 7) {
            for (int j = i + 1; j <= 200; j += 9) {
                Due.is("apart in a chain, " + i + " and " + j, 202 - j, x.apart(i, j));
                Due.is("apart in a chain, " + j + " and " + i, 202 - j, x.apart(j, i));
            }
        }
        Due.is("references of the last", 1, x.type(200, 4));
        Due.is("reference of the last", 0, x.reference(200, 0));
        Due.is("reference of the one ahead", 200, x.reference(199, 0));
        Due.is("the deepest apart", 200, x.apart(1, 2));
        Due.is("the greatest depth", 199, x.look(6));
        Due.is("all are classes", 200, x.look(1));
    }

    private static void rings() {
        Text text = new Text();
        for (int i = 1; i <= 6; i++) {
            text.leaning(10, i % 6 + 1);
        }
        text.leaning(10, 7);
        TypeFold x = Calls.loaded(text);
        Due.is("rings of other lengths are one", 0, x.apart(1, 7));
        Due.is("one class", 1, x.look(1));
        Due.is("no two that are not one", 0, x.look(6));
        Text uneven = new Text();
        for (int i = 1; i <= 6; i++) {
            uneven.defined(i == 4 ? "b" : "a", i % 6 + 1);
        }
        TypeFold y = Calls.loaded(uneven.defined("a", 7));
        Due.is("a ring with another name", 4, y.apart(1, 7));
        Due.is("just behind the name", 6, y.apart(5, 7));
        Due.is("ahead of it", 2, y.apart(3, 7));
        Due.is("the greatest depth in the ring", 5, y.look(6));
    }

    private static void refersToVoid() {
        TypeFold x = Calls.loaded(new Text().pointer(0).pointer(1).pointer(3).struct("s", 0, "a", 1, 0, "b", 1, 0)
                .struct("s", 0, "a", 1, 0, "b", 2, 0).struct("s", 0, "a", 2, 0, "b", 1, 0));
        Due.is("VOID and a pointer below", 2, x.apart(1, 2));
        Due.is("VOID and a ring below", 2, x.apart(1, 3));
        Due.is("VOID two below", 3, x.apart(2, 3));
        Due.is("the last reference tells", 3, x.apart(4, 5));
        Due.is("references count in order", 3, x.apart(5, 6));
    }

    private static void apartAs(String what, int want, Text text) {
        TypeFold x = Calls.loaded(text);
        int n = x.look(0);
        Due.is(what + ": apart", want, x.apart(n - 1, n));
        Due.is(what + ": leader", want == 0 ? n - 1 : n, x.type(n, 6));
    }

    private static void promise6Labels() {
        Due.sentence("LABEL of a type: all else that its bytes tell, names being taken by their letters.");
        apartAs("same INT", 0, new Text().integer("a", 4, 32).integer("a", 4, 32));
        apartAs("name", 1, new Text().integer("a", 4, 32).integer("b", 4, 32));
        apartAs("a name's beginning", 1, new Text().integer("ab", 4, 32).integer("a", 4, 32));
        apartAs("size", 1, new Text().integer("a", 4, 8).integer("a", 8, 8));
        apartAs("bits", 1, new Text().integer("a", 4, 8).integer("a", 4, 9));
        apartAs("code", 1, new Text().integer("a", 4, 8).integer("a", 4, 8 | 1 << 24));
        apartAs("shift", 1, new Text().integer("a", 4, 8).integer("a", 4, 8 | 1 << 16));
        apartAs("kind", 1, new Text().leaning(9, 0).leaning(10, 0));
        apartAs("how many", 1, new Text().array(0, 0, 1).array(0, 0, 2));
        apartAs("elements", 2, new Text().pointer(0).array(0, 0, 1).array(1, 0, 1));
        apartAs("index", 2, new Text().pointer(0).array(0, 0, 1).array(0, 1, 1));
        apartAs("member's name", 1, new Text().struct("", 0, "a", 0, 0).struct("", 0, "b", 0, 0));
        apartAs("member's place", 1, new Text().struct("", 0, "a", 0, 0).struct("", 0, "a", 0, 1));
        apartAs("members", 1, new Text().struct("", 0, "a", 0, 0).struct("", 0, "a", 0, 0, "a", 0, 0));
        apartAs("member's type", 2, new Text().struct("s", 0, "a", 1, 0).struct("s", 0, "a", 0, 0));
        apartAs("STRUCT and UNION", 1, new Text().struct("s", 0).composite(5, "s", 0, 0));
        apartAs("flag of STRUCT", 1, new Text().struct("s", 0).composite(4, "s", 1, 0));
        apartAs("size of STRUCT", 1, new Text().struct("s", 0).struct("s", 1));
        apartAs("value's name", 1, new Text().enumeration("", 0, 4, "a", 1).enumeration("", 0, 4, "b", 1));
        apartAs("value", 1, new Text().enumeration("", 0, 4, "a", 1).enumeration("", 0, 4, "a", -1));
        apartAs("same ENUM", 0, new Text().enumeration("e", 1, 4, "a", -1).enumeration("e", 1, 4, "a", -1));
        apartAs("flag of ENUM", 1, new Text().enumeration("e", 1, 4).enumeration("e", 0, 4));
        apartAs("size of ENUM", 1, new Text().enumeration("e", 0, 4).enumeration("e", 0, 8));
        apartAs("flag of FORWARD", 1, new Text().forward("f", 0).forward("f", 1));
        apartAs("V of FUNCTION", 1, new Text().function("f", 0, 0).function("f", 1, 0));
        apartAs("type of FUNCTION", 2, new Text().function("f", 0, 0).function("f", 0, 1));
        apartAs("parameter's name", 1, new Text().prototype(0, "a", 0).prototype(0, "b", 0));
        apartAs("parameter's type", 2, new Text().prototype(0, "a", 0).prototype(0, "a", 1));
        apartAs("what it gives", 2, new Text().prototype(0, "a", 0).prototype(1, "a", 0));
        sameLetters();
    }

    private static void sameLetters() {
        Text text = new Text();
        int ab = text.letters("ab");
        int again = text.letters("cab") + 1;
        text.words(ab, Text.info(7, 0, 0), 0).words(again, Text.info(7, 0, 0), 0);
        apartAs("the same letters elsewhere", 0, text);
        Text empty = new Text();
        int behind = empty.letters("a") + 1;
        empty.words(0, Text.info(2, 0, 0), 0).words(behind, Text.info(2, 0, 0), 0);
        apartAs("the empty name elsewhere", 0, empty);
    }

    private static void promise7() {
        Due.sentence("Promise 7: bytes");
        TypeFold x = Calls.loaded(new Text()
                .integer("i", 4, 32).pointer(0).array(1, 2, 10).struct("s", 24, "s", 4, 0)
                .composite(5, "u", 0, 0xffffffffL).enumeration("e", 0, 8).forward("f", 0).defined("d", 3)
                .leaning(9, 8).leaning(10, 9).leaning(11, 10).function("m", 0, 13).prototype(1)
                .array(11, 7, 3).array(0, 1, 0).array(7, 1, 5).defined("v", 0)
                .array(4, 4, 0).array(18, 1, 0xffffffffL));
        long[] want = {-1, 4, 8, 40, 24, 0xffffffffL, 8, -1, 40, 40, 40, 40, -1, -1, 120, -1, -1, -1, 0, 0};
        for (int i = 0; i < want.length; i++) {
            Due.is("bytes(" + i + ")", want[i], x.bytes(i));
        }
        for (int i : new int[] {-1, 20, Integer.MAX_VALUE, Integer.MIN_VALUE}) {
            Due.throwing("bytes(" + i + ")", NONE, () -> x.bytes(i));
        }
    }

    private static void finds(TypeFold x, int want, String name, int kind, int i) {
        Calls.feedAll(x, name);
        Due.is("find(" + kind + ", " + i + ") of " + name, want, x.find(kind, i));
        Due.is("find uses the tape up", 0, x.look(2));
    }

    private static void promise8() {
        Due.sentence("Promise 8: find");
        TypeFold x = Calls.loaded(new Text().integer("n", 4, 32).struct("n", 4, "m", 1, 0).pointer(1)
                .struct("n", 4).struct("nn", 8).struct("", 8).forward("a long name of letters", 0));
        finds(x, 1, "n", 0, 1);
        finds(x, 2, "n", 0, 2);
        finds(x, 2, "n", 4, 1);
        finds(x, 4, "n", 4, 3);
        finds(x, 4, "n", 4, 4);
        finds(x, 0, "n", 4, 5);
        finds(x, 0, "n", 2, 1);
        finds(x, 5, "nn", 0, 1);
        finds(x, 0, "nnn", 0, 1);
        finds(x, 0, "m", 0, 1);
        finds(x, 3, "", 0, 1);
        finds(x, 6, "", 4, 1);
        finds(x, 0, "", 13, 1);
        finds(x, 0, "n\0", 0, 1);
        finds(x, 0, "\0", 0, 1);
        finds(x, 7, "a long name of letters", 7, 7);
        finds(x, 0, "a long name of letters", 7, 8);
        finds(x, 0, "a long name of letter", 7, 1);
        finds(x, 0, "n", 0, Integer.MAX_VALUE);
        x.feed(1, 'n');
        for (int kind : new int[] {-1, 14, Integer.MAX_VALUE, Integer.MIN_VALUE}) {
            Due.throwing("find of kind " + kind, ARGUMENT, () -> x.find(kind, 1));
        }
        for (int i : new int[] {0, -1, Integer.MIN_VALUE}) {
            Due.throwing("find from " + i, ARGUMENT, () -> x.find(0, i));
        }
        Due.is("a find that throws leaves the tape", 1, x.look(2));
        Due.is("and the tape goes on", 1, x.find(0, 1));
    }

    private static void promise9() {
        Due.sentence("Promise 9: ring");
        TypeFold x = Calls.loaded(new Text()
                .pointer(2).struct("s", 8, "p", 1, 0, "q", 3, 0).array(4, 0, 2).prototype(0, "a", 5, "b", 2)
                .pointer(5).leaning(10, 1).function("f", 0, 6).integer("i", 4, 32).array(8, 10, 1).defined("d", 9)
                .pointer(0));
        int[] want = {4, 4, 4, 4, 1, 1, 1, 1, 2, 2, 1};
        for (int i = 1; i <= want.length; i++) {
            Due.is("ring(" + i + ")", want[i - 1], x.ring(i));
        }
        for (int i : new int[] {0, -1, 12, Integer.MAX_VALUE, Integer.MIN_VALUE}) {
            Due.throwing("ring(" + i + ")", NONE, () -> x.ring(i));
        }
        Text all = new Text();
        Text back = new Text();
        for (int i = 1; i <= 200; i++) {
            all.pointer(i % 200 + 1);
            back.pointer(i == 1 ? 200 : i - 1);
        }
        Due.is("a ring of all", 200, Calls.loaded(all).ring(77));
        Due.is("a ring of all, turned round", 200, Calls.loaded(back).ring(1));
        TypeFold meets = Calls.loaded(new Text().pointer(3).pointer(3).pointer(0).struct("", 0, "", 0, 0, "", 4, 0));
        Due.is("two come to one", 1, meets.ring(3));
        Due.is("VOID makes no ring", 1, meets.ring(1));
    }

    private static void promise10() {
        Due.sentence("Promise 10: write");
        TypeFold x = Calls.loaded(new Text()
                .pointer(5).enumeration("e", 1, 4, "v", -1, "e", 7).pointer(5).enumeration("e", 1, 4, "v", -1, "e", 7)
                .integer("i", 4, 0x01000020).array(3, 2, 9).array(1, 4, 9).struct("s", 8, "v", 7, 1, "", 0, 2)
                .composite(5, "", 1, 8, "z", 8, 0).forward("g", 1).defined("i", 12).pointer(5).function("f", 2, 14)
                .prototype(12, "", 0, "y", 13).leaning(9, 7).leaning(10, 15).leaning(11, 12).leaning(11, 3));
        Text due = new Text()
                .pointer(3).enumeration("e", 1, 4, "v", -1, "e", 7)
                .integer("i", 4, 0x01000020).array(1, 2, 9).struct("s", 8, "v", 4, 1, "", 0, 2)
                .composite(5, "", 1, 8, "z", 5, 0).forward("g", 1).defined("i", 1).function("f", 2, 10)
                .prototype(1, "", 0, "y", 9).leaning(9, 4).leaning(10, 11).leaning(11, 1);
        Due.same("folded", due.done(), Calls.written(x));
        Due.same("written again", due.done(), Calls.written(x));
        TypeFold y = Calls.loaded(due);
        Due.is("folding again folds nothing", y.look(0), y.look(1));
        Due.same("folded again", due.done(), Calls.written(y));
    }

    private static void promise10Names() {
        Text text = new Text();
        text.letters("unused");
        int second = text.letters("second");
        int empty = second + 6;
        int first = text.letters("first");
        int again = text.letters("second");
        text.words(empty, Text.info(2, 0, 0), 0);
        text.words(first, Text.info(4, 2, 0), 4, second, 0, 0, empty, 0, 0);
        text.words(again, Text.info(7, 0, 0), 0);
        text.words(second + 3, Text.info(7, 0, 0), 0);
        Text due = new Text().pointer(0).struct("first", 4, "second", 0, 0, "", 0, 0).forward("second", 0)
                .forward("ond", 0);
        Due.same("names written anew", due.done(), Calls.written(Calls.loaded(text)));
        TypeFold nameless = Calls.loaded(new Text().pointer(0).pointer(0));
        Due.is("no names", 24 + 12 + 1, nameless.write());
    }

    private static void promise11() {
        Due.sentence("Promise 11: name");
        TypeFold x = Calls.loaded(new Text().forward("a\u00ffb", 0).pointer(1).forward("longer than eight", 0)
                .forward("b", 0));
        Due.is("name(1)", 3, x.name(1));
        Due.is("its letters", 0x62ff61L, x.out(0));
        Due.is("name(3)", 17, x.name(3));
        Due.is("its end", 't', x.out(16));
        Due.is("name(4)", 1, x.name(4));
        Due.is("a shorter name behind a longer", 'b', x.out(0));
        Due.throwing("nothing is left of the longer", NONE, () -> x.out(1));
        for (int i : new int[] {0, -1, 5, Integer.MAX_VALUE, Integer.MIN_VALUE}) {
            Due.throwing("name(" + i + ")", NONE, () -> x.name(i));
        }
        Due.is("OUT stays behind a throw", 1, x.look(3));
        Due.is("an empty name", 0, x.name(2));
        Due.is("OUT is empty", 0, x.look(3));
        Due.throwing("no byte of it", NONE, () -> x.out(0));
    }

    private static void promise12() {
        Due.sentence("Promise 12: out");
        TypeFold x = Calls.loaded(new Text().forward("\u00f1bcdefghijk", 0));
        Due.is("name", 11, x.name(1));
        Due.is("out(0)", 0x68676665646362f1L, x.out(0));
        Due.is("out(3)", 0x6b6a696867666564L, x.out(3));
        Due.is("out(4)", 0x006b6a6968676665L, x.out(4));
        Due.is("out(10)", 0x6bL, x.out(10));
        for (int k : new int[] {11, -1, 16384, Integer.MAX_VALUE, Integer.MIN_VALUE}) {
            Due.throwing("out(" + k + ")", NONE, () -> x.out(k));
        }
        TypeFold y = Calls.loaded(new Text().forward("aaaaaaa\u0080", 0));
        y.name(1);
        Due.is("out is negative with its top bit", 0x8061616161616161L, y.out(0));
    }

    private static void promise13() {
        Due.sentence("Promise 13: look");
        TypeFold x = Calls.loaded(Loads.small());
        int[] want = {4, 3, 0, 0, 0, 0, 0};
        for (int what = 0; what <= 6; what++) {
            Due.is("look(" + what + ")", want[what], x.look(what));
        }
        x.feed(5, 0);
        x.write();
        Due.is("tape", 5, x.look(2));
        Due.is("OUT", 24 + 16 + 12 + 36 + 11, x.look(3));
        Due.is("an error", 1, x.load());
        Due.is("it is told", 1, x.look(4));
        Due.is("an error at a type", 4, Calls.load(x, new Text().pointer(0).words(0, 0, 0)));
        Due.is("it is told, too", 4, x.look(4));
        Due.is("the type that it stood at", 2, x.look(5));
        Due.is("an error at none", 6, Calls.load(x, new Text().pointer(7)));
        Due.is("no type", 0, x.look(5));
        Calls.load(x, new Text().pointer(0).words(0, 0, 0));
        Due.is("a good load", 0, Calls.load(x, Loads.small()));
        Due.is("no error", 0, x.look(4));
        Due.is("no type either", 0, x.look(5));
        for (int what : new int[] {-1, 7, Integer.MAX_VALUE, Integer.MIN_VALUE}) {
            Due.throwing("look(" + what + ")", ARGUMENT, () -> x.look(what));
        }
        Due.is("greatest depth of a chain", 2, Calls.loaded(new Text().pointer(0).pointer(1).pointer(2)).look(6));
        Due.is("greatest depth of one", 0, Calls.loaded(new Text().pointer(0)).look(6));
        Due.is("greatest depth of ones", 0, Calls.loaded(new Text().pointer(1).pointer(2)).look(6));
    }
}
