import java.util.Arrays;

/** The bounds that the document's terms name for a TEXT, a NAME and TYPES of every kind. */
public final class TextTest {
    public static void main(String[] args) {
        numbers();
        heads();
        lengths();
        strings();
        names();
        howManyTypes();
        infoBits();
        ints();
        arrays();
        structsAndUnions();
        enums();
        forwards();
        leaningKinds();
        functions();
        prototypes();
        valuesOfV();
        flags();
        emptyNames();
        items();
        fullTexts();
        Due.end("TextTest");
    }

    private static void numbers() {
        Due.sentence("NUMBERS lie lowest byte first; at 4 (4): the number of 4 bytes from byte 4 on, below 2^32");
        TypeFold x = Loads.taken("a size byte by byte", new Text().rawTypeBytes(0, 0, 0, 0, 0, 0, 0, 4, 1, 2, 3, 4));
        Due.is("R of 1 2 3 4", 0x04030201L, x.type(1, 3));
        Due.sentence("below 2^32 and not negative (where nothing else is told)");
        for (long r : new long[] {0, 1, 0x7fffffffL, 0x80000000L, 0xffffffffL}) {
            Due.is("R of STRUCT", r, Loads.taken("R " + r, new Text().words(0, Text.info(4, 0, 0), r)).type(1, 3));
            Due.is("bytes of STRUCT", r, Loads.taken("R " + r, new Text().words(0, Text.info(4, 0, 0), r)).bytes(1));
            Due.is("how many of ARRAY", r, Loads.taken("many", new Text().struct("", 1).array(1, 0, r)).bytes(2));
        }
        byte[] least = Text.headed(0, 0, 1, 0);
        Loads.refused("T 2^31", 2, 0, Loads.with(Loads.with(least, 12, 4, 1L << 31), 16, 4, 1L << 31));
        Loads.refused("S 2^32 - 1", 2, 0, Loads.with(least, 20, 4, -1));
        Loads.refused("24 and T and S go round to 25", 2, 0, Text.headed(0xffffffffL, 0xffffffffL, 2, 0));
        Loads.refused("24 and T and S go round to 25, by halves", 2, 0,
                Text.headed(0x80000000L, 0x80000000L, 0x80000001L, 0));
    }

    private static void heads() {
        byte[] good = Loads.small().done();
        Due.sentence("A TEXT: 24 bytes: at 0 (2) 0xeb9f");
        for (long v : new long[] {0, 0xeb9e, 0xeba0, 0x9feb, 0xffff}) {
            Loads.refused("at 0: " + v, 1, 0, Loads.with(good, 0, 2, v));
        }
        for (int bit = 0; bit < 16; bit++) {
            Loads.refused("at 0: bit " + bit, 1, 0, Loads.with(good, 0, 2, 0xeb9f ^ 1 << bit));
        }
        Due.sentence("at 2 (1) 1");
        for (int v = 0; v < 256; v++) {
            Loads.refused("at 2: " + v, v == 1 ? 2 : 1, 0, Arrays.copyOf(Loads.with(good, 2, v), 24));
        }
        Due.sentence("at 3 (1) 0");
        for (int v = 0; v < 256; v++) {
            Loads.refused("at 3: " + v, v == 0 ? 2 : 1, 0, Arrays.copyOf(Loads.with(good, 3, v), 24));
        }
        Due.sentence("at 4 (4) 24");
        for (long v : new long[] {0, 23, 25, 24 + 256, 24 + 65536, 24 + (1 << 24), 24 + (1L << 31), 24L << 24}) {
            Loads.refused("at 4: " + v, 1, 0, Loads.with(good, 4, 4, v));
        }
        Due.sentence("at 8 (4) 0");
        for (int bit = 0; bit < 32; bit++) {
            Loads.refused("at 8: bit " + bit, 1, 0, Loads.with(good, 8, 4, 1L << bit));
        }
    }

    private static void lengths() {
        Due.sentence("fewer than 24 bytes");
        byte[] good = Loads.small().done();
        for (int n = 0; n < 24; n++) {
            Loads.refused(n + " bytes", 1, 0, Arrays.copyOf(good, n));
        }
        Loads.refused("24 bytes, of a text of more", 2, 0, Arrays.copyOf(good, 24));
        Loads.taken("25 bytes, the least text", Text.headed(0, 0, 1, 0));
        Due.sentence("at 16 (4) is not T");
        long t = Loads.small().typeBytes();
        for (long other : new long[] {0, t - 1, t + 1, t + 256, t + 65536, t + (1 << 24), t + (1L << 31)}) {
            Loads.refused("at 16: " + other, 2, 0, Loads.with(good, 16, 4, other));
            Loads.refused("at 12: " + other, 2, 0, Loads.with(good, 12, 4, other));
        }
        Due.sentence("at 12 (4) T, at 16 (4) T, at 20 (4) S; then T bytes of TYPES, S bytes of STRINGS, and"
                + " nothing behind");
        int[] behind = {0, 0, 0, 0, 0, 0, 0, 2, 0, 0, 0, 0, 0, 0, 0, 0, 0, 0, 0, 2, 0, 0, 0, 0, 0};
        for (int n = 0; n <= 2; n++) {
            Due.is("types of the same bytes", n, Loads.taken("T " + 12 * n,
                    Text.headed(12 * n, 12 * n, 25 - 12 * n, behind)).look(0));
        }
        Loads.refused("T ends within a type", 3, 2, Text.headed(17, 17, 8, behind));
        Due.sentence("the text has another length than told");
        Loads.taken("as told", good);
        Loads.refused("one byte less", 2, 0, Arrays.copyOf(good, good.length - 1));
        Loads.refused("one byte behind", 2, 0, Arrays.copyOf(good, good.length + 1));
        Loads.refused("T one more", 2, 0, Loads.with(Loads.with(good, 12, 4, t + 1), 16, 4, t + 1));
        Loads.refused("T one less", 2, 0, Loads.with(Loads.with(good, 12, 4, t - 1), 16, 4, t - 1));
        long s = Loads.small().stringBytes();
        for (long other : new long[] {s - 1, s + 1, s + 256, s + 65536, s + (1 << 24), s + (1L << 31)}) {
            Loads.refused("at 20: " + other, 2, 0, Loads.with(good, 20, 4, other));
        }
        Due.sentence("The TAPE has at most 8192 bytes");
        Text full = new Text();
        full.words(full.letters("z".repeat(8192 - 24 - 12 - 2)), Text.info(7, 0, 0), 0);
        Due.is("a text as long as the tape", 8192, full.done().length);
        TypeFold x = Loads.taken("a text as long as the tape", full);
        Due.is("its only name", 8192 - 24 - 12 - 2, x.type(1, 5));
        Due.same("it is written as it was", full.done(), Calls.written(x));
    }

    private static void strings() {
        Due.sentence("S is 0");
        Loads.refused("no strings, no types", 2, 0, Text.headed(0, 0, 0));
        Loads.refused("no strings behind a type", 2, 0,
                Text.headed(12, 12, 0, 0, 0, 0, 0, 0, 0, 0, 2, 0, 0, 0, 0));
        Due.sentence("The first and the last byte of the strings are 0");
        Loads.taken("one byte, both first and last", Text.headed(0, 0, 1, 0));
        for (int b : new int[] {1, 127, 128, 255}) {
            Loads.refused("one byte " + b, 2, 0, Text.headed(0, 0, 1, b));
            Loads.refused("first byte " + b, 2, 0, Text.headed(0, 0, 2, b, 0));
            Loads.refused("last byte " + b, 2, 0, Text.headed(0, 0, 2, 0, b));
            Loads.refused("both bytes " + b, 2, 0, Text.headed(0, 0, 2, b, b));
            Loads.taken("a byte between " + b, Text.headed(0, 0, 3, 0, b, 0));
        }
        Loads.taken("two bytes", Text.headed(0, 0, 2, 0, 0));
    }

    /** The strings are 0 a b 0 c 0. */
    private static Text nameAt(int kind, long place) {
        Text text = new Text();
        text.letters("ab");
        text.letters("c");
        return text.words(place, Text.info(kind, 0, 0), kind == 1 || kind == 6 ? 1 : 0)
                .words(kind == 1 ? new long[] {8} : new long[kind == 3 ? 3 : 0]);
    }

    private static void names() {
        Due.sentence("A NAME is told by the place of its first byte among the strings; it ends ahead of the next 0");
        long[] letters = {0, 2, 1, 0, 1, 0};
        long[] bytes = {0, 'a' | 'b' << 8, 'b', 0, 'c', 0};
        for (int place = 0; place < letters.length; place++) {
            TypeFold x = Loads.taken("STRUCT named at " + place, nameAt(4, place));
            Due.is("letters at " + place, letters[place], x.type(1, 5));
            Due.is("name at " + place, letters[place], x.name(1));
            if (letters[place] > 0) {
                Due.is("its bytes at " + place, bytes[place], x.out(0));
            }
        }
        Due.sentence("so place 0 is the EMPTY name");
        Due.is("letters of place 0", 0, Loads.taken("place 0", nameAt(4, 0)).type(1, 5));
        Due.sentence("a name that is not within the strings");
        for (int kind = 1; kind <= 13; kind++) {
            boolean needed = needsName(kind);
            Loads.judged("the last place with letters, kind " + kind, needed || kind >= 4 && kind <= 6, 5, 1,
                    nameAt(kind, 4));
            Loads.judged("the last place, kind " + kind, !needed, 5, 1, nameAt(kind, 5));
            for (long place : new long[] {6, 7, 1 << 16, 0x7fffffffL, 0x80000000L, 0xffffffffL, 0x100000000L - 12}) {
                Loads.refused("place " + place + ", kind " + kind, 5, 1, nameAt(kind, place));
            }
        }
        for (int kind : new int[] {4, 5, 6, 13}) {
            for (int bad = 0; bad < 3; bad++) {
                for (long place : new long[] {0, 1, 2, 3, 4, 0x80000000L, 0xffffffffL}) {
                    Loads.judged("name of item " + bad + " at " + place + ", kind " + kind, place < 4, 5, 2,
                            itemNameAt(kind, bad, place));
                }
            }
        }
    }

    /** The strings are 0 a b 0; the second type has three items, one of them named at a place. */
    private static Text itemNameAt(int kind, int item, long place) {
        Text text = new Text().pointer(0);
        text.letters("ab");
        text.words(0, Text.info(kind, 3, 0), kind == 6 ? 4 : 0);
        for (int k = 0; k < 3; k++) {
            text.words(k == item ? place : 0, 0).words(new long[kind < 6 ? 1 : 0]);
        }
        return text;
    }

    private static boolean needsName(int kind) {
        return kind == 1 || kind == 7 || kind == 8 || kind == 12;
    }

    static Text pointers(int n) {
        Text text = new Text();
        for (int k = 0; k < n; k++) {
            text.pointer(0);
        }
        return text;
    }

    private static void howManyTypes() {
        Due.sentence("TYPES are numbered 1, 2 .. N in their order, N 200 at most; 0 is VOID.");
        Due.is("a type's own number", 2, Loads.taken("two types", pointers(1).pointer(2)).reference(2, 0));
        Due.is("VOID", 0, Loads.taken("a type of VOID", pointers(1)).reference(1, 0));
        for (int n : new int[] {0, 1, 2, 199, 200}) {
            Due.is(n + " types", n, Loads.taken(n + " types", pointers(n)).look(0));
        }
        TypeFold x = Loads.taken("200 types of names", ofNames(200));
        for (int i = 1; i <= 200; i++) {
            Due.is("letters of type " + i, i, x.type(i, 5));
        }
        Due.sentence("there are too many types");
        for (int n : new int[] {201, 202, 250, 600}) {
            Loads.refused(n + " types", 4, 201, pointers(n));
        }
        Due.is("200 behind a refusal of 201", 200, behindRefusal(pointers(201), pointers(200)).look(0));
    }

    /** FORWARDs, type i having i letters. */
    private static Text ofNames(int n) {
        Text text = new Text();
        int at = text.letters("y".repeat(n));
        for (int i = 1; i <= n; i++) {
            text.words(at + n - i, Text.info(7, 0, 0), 0);
        }
        return text;
    }

    private static TypeFold behindRefusal(Text refused, Text taken) {
        TypeFold x = new TypeFold();
        Due.is("a refused load", 4, Calls.load(x, refused));
        Due.is("a load behind it", 0, Calls.load(x, taken));
        return x;
    }

    /** A type that holds in all but, perhaps, its info (the second word). */
    private static Text plain(int kind, long info) {
        return plain(kind, info, kind == 1 || kind == 6 ? 1 : 0);
    }

    private static Text plain(int kind, long info, long rest) {
        Text text = new Text();
        text.words(text.place(needsName(kind) ? "a" : ""), info, rest);
        return text.words(kind == 1 ? new long[] {8} : new long[kind == 3 ? 3 : 0]);
    }

    private static void infoBits() {
        Due.sentence("Each has 12 bytes: at 0 (4) its name; at 4 (4) V in bits 0 to 15, KIND in bits 24 to 28,"
                + " FLAG in bit 31, 0s in the others; at 8 (4) R.");
        Text three = new Text();
        three.letters("abc");
        three.rawTypeBytes(2, 0, 0, 0, 0, 0, 0, 0x85, 9, 8, 7, 0xf6);
        TypeFold union = Loads.taken("a UNION byte by byte", three);
        long[] told = {5, 0, 1, 0xf6070809L, 0, 2, 1, 1};
        for (int what = 0; what < told.length; what++) {
            Due.is("type(1, " + what + ")", told[what], union.type(1, what));
        }
        Due.sentence("KIND in bits 24 to 28");
        for (int kind = 0; kind < 32; kind++) {
            Loads.judged("kind " + kind, kind >= 1 && kind <= 13, 4, 1, plain(kind, Text.info(kind, 0, 0)));
            if (kind >= 1 && kind <= 13) {
                Due.is("kind", kind, Loads.taken("kind " + kind, plain(kind, Text.info(kind, 0, 0))).type(1, 0));
            }
        }
        Due.sentence("0s in the others");
        for (int kind = 1; kind <= 13; kind++) {
            for (int bit : new int[] {16, 17, 18, 19, 20, 21, 22, 23, 29, 30}) {
                Loads.refused("bit " + bit + " of kind " + kind, 4, 1, plain(kind, Text.info(kind, 0, 0) | 1L << bit));
            }
        }
        Due.sentence("V in bits 0 to 15");
        for (int v : new int[] {0, 1, 2, 255, 256, 257, 511, 512, 600}) {
            TypeFold x = Loads.taken(v + " values", values(v));
            Due.is("V", v, x.type(1, 1));
            Due.is("KIND beside V", 6, x.type(1, 0));
        }
        Loads.refused("V is all its bits", 3, 1, new Text().words(0, Text.info(6, 65535, 0), 4).words(new long[600]));
        Due.sentence("FLAG in bit 31");
        Due.is("FLAG 1", 1, Loads.taken("FLAG 1", plain(7, 0x87000000L)).type(1, 2));
        Due.is("KIND beside FLAG", 7, Loads.taken("FLAG 1", plain(7, 0x87000000L)).type(1, 0));
        Due.is("FLAG 0", 0, Loads.taken("FLAG 0", plain(7, 0x07000000L)).type(1, 2));
    }

    private static Text integer(long size, long word) {
        Text text = new Text();
        return text.words(text.place("i"), Text.info(1, 0, 0), size, word);
    }

    private static void ints() {
        Due.sentence("1 INT: 4 bytes: BITS in bits 0 to 7, SHIFT in 16 to 23, CODE in 24 to 27, 0s in the others;"
                + " R, its size, is 1, 2, 4, 8 or 16");
        for (long r = 0; r <= 40; r++) {
            Loads.judged("INT of size " + r, r == 1 || r == 2 || r == 4 || r == 8 || r == 16, 4, 1, integer(r, 1));
        }
        for (long r : new long[] {64, 257, 260, 65537, 1 << 24, 0x80000001L, 0x80000000L, 0xffffffffL}) {
            Loads.refused("INT of size " + r, 4, 1, integer(r, 1));
        }
        Due.sentence("BITS is 1 or more");
        for (int r : new int[] {1, 2, 4, 8, 16}) {
            Loads.refused("no bits, size " + r, 4, 1, integer(r, 0));
            Loads.refused("no bits but a shift, size " + r, 4, 1, integer(r, 1 << 16));
            Loads.refused("no bits but a code, size " + r, 4, 1, integer(r, 1 << 24));
            Loads.taken("1 bit, size " + r, integer(r, 1));
        }
        Due.sentence("BITS and SHIFT together are at most 8 * R");
        for (int r : new int[] {1, 2, 4, 8, 16}) {
            for (int shift : new int[] {0, 1, 4 * r, 8 * r - 1, 8 * r, 128, 255}) {
                for (int bits : new int[] {1, 8 * r - shift, 8 * r - shift + 1, 8 * r, 8 * r + 1, 128, 255}) {
                    if (bits >= 1) {
                        Loads.judged("BITS " + bits + ", SHIFT " + shift + ", size " + r, bits + shift <= 8 * r, 4, 1,
                                integer(r, bits | shift << 16));
                    }
                }
            }
        }
        Due.sentence("CODE in 24 to 27, 0s in the others");
        for (int code = 0; code < 16; code++) {
            Loads.taken("CODE " + code, integer(4, 32 | code << 24));
        }
        for (int bit : new int[] {8, 9, 10, 11, 12, 13, 14, 15, 28, 29, 30, 31}) {
            Loads.refused("bit " + bit + " of INT", 4, 1, integer(4, 8 | 1L << bit));
        }
        Due.sentence("1 INT: 4 bytes");
        Loads.refused("INT without its 4 bytes", 3, 1, new Text().words(0, Text.info(1, 0, 0), 4));
        Loads.refused("INT with 3 of them", 3, 1, new Text().words(0, Text.info(1, 0, 0), 4).rawTypeBytes(8, 0, 0));
    }

    private static void arrays() {
        Due.sentence("3 ARRAY: 12 bytes: its elements' type, its index's type, how many; R 0");
        TypeFold x = Loads.taken("ARRAY", pointers(2).array(1, 2, 3));
        Due.is("elements'", 1, x.reference(3, 0));
        Due.is("index's", 2, x.reference(3, 1));
        Due.is("how many", 24, x.bytes(3));
        for (long r : new long[] {1, 2, 256, 0x80000000L, 0xffffffffL}) {
            Loads.refused("ARRAY with R " + r, 4, 1, plain(3, Text.info(3, 0, 0), r));
        }
        for (int n = 0; n < 12; n++) {
            Loads.refused("ARRAY with " + n + " bytes", 3, 1,
                    new Text().words(0, Text.info(3, 0, 0), 0).rawTypeBytes(new int[n]));
        }
        Loads.taken("how many may be all", pointers(1).array(0, 0, 0xffffffffL));
    }

    private static void structsAndUnions() {
        Due.sentence("4 STRUCT, 5 UNION: V members, each of 12 bytes: name, type, place; R its size");
        for (int kind = 4; kind <= 5; kind++) {
            for (int v = 0; v <= 3; v++) {
                Text text = pointers(1).words(0, Text.info(kind, v, 0), 77).words(new long[3 * v]);
                TypeFold x = Loads.taken(v + " members", text.pointer(2));
                Due.is("members", v, x.type(2, 1));
                Due.is("members' types", v, x.type(2, 4));
                Due.is("size", 77, x.bytes(2));
                Due.is("the type behind", 2, x.reference(3, 0));
            }
            for (int n = 24; n < 36; n++) {
                Loads.refused("3 members in " + n + " bytes", 3, 2,
                        pointers(1).words(0, Text.info(kind, 3, 0), 0).rawTypeBytes(new int[n]));
            }
            for (long r : new long[] {0, 3, 0x80000000L, 0xffffffffL}) {
                Loads.taken("size " + r, plain(kind, Text.info(kind, 0, 0), r));
            }
            Loads.taken("place is any number", new Text().composite(kind, "", 0, 0, "", 0, 0xffffffffL));
        }
    }

    private static void enums() {
        Due.sentence("6 ENUM: V values of 8 bytes: name, a number (of 4 bytes, signed); R is 1, 2, 4 or 8");
        for (long r = 0; r <= 40; r++) {
            Loads.judged("ENUM of size " + r, r == 1 || r == 2 || r == 4 || r == 8, 4, 1,
                    plain(6, Text.info(6, 0, 0), r));
        }
        for (long r : new long[] {257, 65537, 0x80000001L, 0xffffffffL}) {
            Loads.refused("ENUM of size " + r, 4, 1, plain(6, Text.info(6, 0, 0), r));
        }
        for (int v = 0; v <= 3; v++) {
            TypeFold x = Loads.taken(v + " values", values(v).pointer(1));
            Due.is("values", v, x.type(1, 1));
            Due.is("values are no references", 0, x.type(1, 4));
            Due.is("the type behind", 1, x.reference(2, 0));
        }
        for (int n = 16; n < 24; n++) {
            Loads.refused("3 values in " + n + " bytes", 3, 1,
                    new Text().words(0, Text.info(6, 3, 0), 4).rawTypeBytes(new int[n]));
        }
        for (long number : new long[] {0, 1, -1, Integer.MAX_VALUE, Integer.MIN_VALUE}) {
            Text text = new Text().enumeration("e", 0, 4, "v", number);
            Due.same("number " + number, text.done(), Calls.written(Loads.taken("number " + number, text)));
        }
    }

    static Text values(int... each) {
        Text text = new Text();
        for (int v : each) {
            text.words(0, Text.info(6, v, 0), 4).words(new long[2 * v]);
        }
        return text;
    }

    private static void forwards() {
        Due.sentence("7 FORWARD: R 0");
        for (long r : new long[] {0, 1, 2, 256, 0x80000000L, 0xffffffffL}) {
            Loads.judged("FORWARD with R " + r, r == 0, 4, 1, plain(7, Text.info(7, 0, 0), r));
        }
    }

    private static void leaningKinds() {
        Due.sentence("8 DEFINED as R. 9 VOLATILE, 10 CONST, 11 RESTRICT R. 12 FUNCTION with type R");
        for (int kind : new int[] {2, 8, 9, 10, 11, 12}) {
            for (long r = 0; r <= 1; r++) {
                TypeFold x = Loads.taken("kind " + kind + " of " + r, plain(kind, Text.info(kind, 0, 0), r));
                Due.is("its R", r, x.type(1, 3));
                Due.is("its references", 1, x.type(1, 4));
                Due.is("its reference", r, x.reference(1, 0));
            }
            Loads.refused("11 bytes of kind " + kind, 3, 1,
                    new Text().words(0, Text.info(kind, 0, 0)).rawTypeBytes(0, 0, 0));
        }
        Due.sentence("2 POINTER to R");
        Due.is("to another", 2, Loads.taken("POINTER", new Text().pointer(2).pointer(0)).reference(1, 0));
        Due.is("to VOID", 0, Loads.taken("POINTER", new Text().pointer(2).pointer(0)).reference(2, 0));
    }

    private static void functions() {
        Due.sentence("12 FUNCTION with type R; V 0, 1, 2");
        for (int v : new int[] {0, 1, 2, 3, 4, 255, 256, 257, 258, 65535}) {
            Loads.judged("V " + v + " of FUNCTION", v <= 2, 4, 1, plain(12, Text.info(12, v, 0)));
        }
        for (int v = 0; v <= 2; v++) {
            TypeFold x = Loads.taken("V " + v, new Text().function("f", v, 0).pointer(2));
            Due.is("V", v, x.type(1, 1));
            Due.is("nothing follows it", 2, x.look(0));
        }
    }

    private static void prototypes() {
        Due.sentence("13 PROTOTYPE: gives R; V parameters, each of 8 bytes: name, type");
        for (int v = 0; v <= 3; v++) {
            Text text = pointers(1).words(0, Text.info(13, v, 0), 1).words(new long[2 * v]);
            TypeFold x = Loads.taken(v + " parameters", text.pointer(2));
            Due.is("parameters", v, x.type(2, 1));
            Due.is("R and the parameters' types", 1 + v, x.type(2, 4));
            Due.is("R goes ahead", 1, x.reference(2, 0));
            Due.is("the type behind", 2, x.reference(3, 0));
        }
        for (int n = 16; n < 24; n++) {
            Loads.refused("3 parameters in " + n + " bytes", 3, 1,
                    new Text().words(0, Text.info(13, 3, 0), 0).rawTypeBytes(new int[n]));
        }
    }

    private static void valuesOfV() {
        Due.sentence("V is 0 but for kinds 4, 5, 6, 12, 13");
        for (int kind : new int[] {1, 2, 3, 7, 8, 9, 10, 11}) {
            Loads.taken("V 0 of kind " + kind, plain(kind, Text.info(kind, 0, 0)));
            for (int v : new int[] {1, 2, 255, 256, 32768, 65535}) {
                Loads.refused("V " + v + " of kind " + kind, 4, 1, plain(kind, Text.info(kind, v, 0)));
            }
        }
    }

    private static void flags() {
        Due.sentence("FLAG is 0 but for 4, 5, 6, 7");
        for (int kind = 1; kind <= 13; kind++) {
            Loads.judged("FLAG 1 of kind " + kind, kind >= 4 && kind <= 7, 4, 1, plain(kind, Text.info(kind, 0, 1)));
            Due.is("FLAG 0 of kind " + kind, 0,
                    Loads.taken("FLAG 0 of kind " + kind, plain(kind, Text.info(kind, 0, 0))).type(1, 2));
        }
        for (int kind = 4; kind <= 7; kind++) {
            Due.is("FLAG 1 is told of kind " + kind, 1,
                    Loads.taken("FLAG 1", plain(kind, Text.info(kind, 0, 1))).type(1, 2));
        }
    }

    private static void emptyNames() {
        Due.sentence("The name is empty for 2, 3, 9, 10, 11, 13, and not for 1, 7, 8, 12");
        for (int kind = 1; kind <= 13; kind++) {
            boolean free = kind >= 4 && kind <= 6;
            Loads.judged("empty, kind " + kind, !needsName(kind), 5, 1, nameAt(kind, 0));
            Loads.judged("empty behind a name, kind " + kind, !needsName(kind), 5, 1, nameAt(kind, 3));
            Loads.judged("two letters, kind " + kind, free || needsName(kind), 5, 1, nameAt(kind, 1));
            Loads.judged("one letter, kind " + kind, free || needsName(kind), 5, 1, nameAt(kind, 2));
        }
        for (int kind : new int[] {4, 5, 6, 13}) {
            Loads.taken("items' names are free, kind " + kind, itemNameAt(kind, 1, 1));
            Loads.taken("items' names may be empty, kind " + kind, itemNameAt(kind, 1, 0));
        }
    }

    private static void items() {
        Due.sentence("All members, values and parameters together are 600 at most");
        for (int n : new int[] {599, 600, 601, 602, 679}) {
            Loads.judged(n + " values", n <= 600, 4, 1, values(n));
            Loads.judged(n + " values, a type behind", n <= 600, 4, 1, values(n).pointer(0));
            Loads.judged(n + " parameters", n <= 600, 4, 1,
                    new Text().words(0, Text.info(13, n, 0), 0).words(new long[2 * n]));
            for (int kind = 4; kind <= 5; kind++) {
                Loads.judged(n + " members", n <= 600, 4, 1,
                        new Text().words(0, Text.info(kind, n, 0), 0).words(new long[3 * n]));
            }
        }
        Due.sentence("too many types, or members, values and parameters (this type being one too many, or having"
                + " them)");
        Loads.taken("600 in three", values(200, 399, 1, 0));
        Loads.refused("601 in three", 4, 3, values(200, 399, 2, 0));
        Loads.refused("601 in two", 4, 2, values(600, 1, 1));
        Loads.taken("600 of all four kinds", ofAllKinds(150));
        Loads.refused("604 of all four kinds", 4, 4, ofAllKinds(151));
        Loads.refused("601 behind types that have none", 4, 3, pointers(2).words(0, Text.info(6, 601, 0), 4)
                .words(new long[1202]));
        Loads.taken("V of FUNCTION counts for none", values(600).function("f", 2, 0));
        Due.is("600 behind a refusal of 601", 600, behindRefusal(values(601), values(600)).type(1, 1));
        TypeFold x = Loads.taken("600", values(600));
        Due.is("600 once more", 0, Calls.load(x, values(600)));
    }

    /** 200 types and 600 values, all their names different, over and over: what one load counts, the next doesn't. */
    private static void fullTexts() {
        Due.sentence("All members, values and parameters together are 600 at most.");
        Text text = new Text();
        int at = text.letters("y".repeat(800));
        for (int i = 1; i < 200; i++) {
            text.words(at + 800 - i, Text.info(7, 0, 0), 0);
        }
        text.words(at + 600, Text.info(6, 600, 0), 4);
        for (int k = 0; k < 600; k++) {
            text.words(at + 599 - k, 0);
        }
        fullTextWritten();
        TypeFold x = new TypeFold();
        for (int loads = 0; loads < 3; loads++) {
            Due.is("load " + loads, 0, Calls.load(x, text));
            Due.is("types", 200, x.look(0));
            Due.is("classes", 200, x.look(1));
            for (int i = 1; i <= 200; i++) {
                Due.is("letters of " + i, i, x.type(i, 5));
            }
            Due.is("far too long", -1, x.write());
            Due.is("refused", 4, Calls.load(x, values(601)));
        }
    }

    /** 200 types and 600 values with short names, so that the text written anew has room, and is the same. */
    private static void fullTextWritten() {
        Text text = new Text();
        for (int i = 0; i < 199; i++) {
            text.forward(twoLetters(i), 0);
        }
        text.words(0, Text.info(6, 600, 0), 4);
        for (int k = 0; k < 600; k++) {
            text.words(text.place(twoLetters(k < 550 ? k % 60 : k - 300)), k);
        }
        TypeFold x = Loads.taken("200 types and 600 values", text);
        Due.is("types", 200, x.look(1));
        Due.same("written", text.done(), Calls.written(x));
        Due.is("written again", 0, Calls.load(x, text));
        Due.same("the same", text.done(), Calls.written(x));
    }

    private static String twoLetters(int k) {
        return "" + (char) ('a' + k / 26) + (char) ('A' + k % 26);
    }

    private static Text ofAllKinds(int each) {
        Text text = values(each);
        for (int kind : new int[] {4, 5, 13}) {
            text.words(0, Text.info(kind, each, 0), 0).words(new long[(kind == 13 ? 2 : 3) * each]);
        }
        return text;
    }
}
