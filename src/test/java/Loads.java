/** Loads of texts that are to be taken or refused. */
final class Loads {
    private Loads() {
    }

    /** int, a pointer to it, a struct with both, a second pointer: 4 is one with 2. */
    static Text small() {
        return new Text().integer("int", 4, 32).pointer(1).struct("s", 16, "x", 1, 0, "y", 2, 64).pointer(1);
    }

    static TypeFold taken(String what, byte[] bytes) {
        TypeFold x = new TypeFold();
        Due.is(what + ": load", 0, Calls.load(x, bytes));
        Due.is(what + ": no error", 0, x.look(4));
        Due.is(what + ": stood at none", 0, x.look(5));
        Due.is(what + ": the tape is used up", 0, x.look(2));
        return x;
    }

    static TypeFold taken(String what, Text text) {
        return taken(what, text.done());
    }

    /** Refused by an object that has types and an OUT already: all of these stay. */
    static void refused(String what, int error, int stood, byte[] bytes) {
        TypeFold x = Calls.loaded(small());
        x.name(1);
        State before = new State(x);
        Due.is(what + ": load", error, Calls.load(x, bytes));
        Due.is(what + ": error", error, x.look(4));
        Due.is(what + ": stood at", stood, x.look(5));
        before.holds(what, x, "look(4)", "look(5)");
    }

    static void refused(String what, int error, int stood, Text text) {
        refused(what, error, stood, text.done());
    }

    /** Taken if it holds; else refused with an error that stands at the type of this number. */
    static void judged(String what, boolean holds, int error, int stood, Text text) {
        if (holds) {
            taken(what, text);
        } else {
            refused(what, error, stood, text);
        }
    }

    static byte[] with(byte[] bytes, int at, int b) {
        byte[] other = bytes.clone();
        other[at] = (byte) b;
        return other;
    }

    /** With a number of n bytes, lowest first, put over what is there. */
    static byte[] with(byte[] bytes, int at, int n, long v) {
        byte[] other = bytes.clone();
        for (int k = 0; k < n; k++) {
            other[at + k] = (byte) (v >>> 8 * k);
        }
        return other;
    }
}
