import java.util.Arrays;

/** Many made texts, good and spoilt, loaded by the program and by the model: every answer must be the same. */
public final class ModelTest {
    private interface Call {
        long of();
    }

    private final Maker maker = new Maker(20261115);

    public static void main(String[] args) {
        ModelTest test = new ModelTest();
        for (int round = 0; round < 3000; round++) {
            test.oneRound(round);
        }
        for (int round = 0; round < 12; round++) {
            test.bigRound(round);
        }
        Due.end("ModelTest");
    }

    private void oneRound(int round) {
        TypeFold x = new TypeFold();
        Model m = new Model();
        int texts = 1 + maker.below(3);
        for (int k = 0; k < texts; k++) {
            byte[] bytes = maker.madeText(maker.below(14), 1 + maker.below(3), 1 + maker.below(13));
            if (maker.rarely(2)) {
                maker.spoil(bytes);
            }
            if (maker.rarely(20)) {
                bytes = Arrays.copyOf(bytes, Math.max(0, bytes.length + maker.below(5) - 2));
            }
            loadBoth("round " + round, x, m, bytes);
            compare("round " + round, x, m);
        }
    }

    private void bigRound(int round) {
        TypeFold x = new TypeFold();
        Model m = new Model();
        loadBoth("big round " + round, x, m, maker.madeText(100 + maker.below(102), 1, 2 + maker.below(12)));
        compare("big round " + round, x, m);
    }

    private static void loadBoth(String what, TypeFold x, Model m, byte[] bytes) {
        Calls.feedAll(x, bytes);
        for (byte b : bytes) {
            m.feed(1, b);
        }
        both(what + " tape", m.look(2), () -> x.look(2));
        both(what + " load", m.load(), x::load);
    }

    private static void both(String what, long want, Call got) {
        Due.is(what, want, got.of());
    }

    private void compare(String what, TypeFold x, Model m) {
        for (int k = 0; k <= 6; k++) {
            Due.is(what + " look(" + k + ")", m.look(k), x.look(k));
        }
        int n = m.look(0);
        for (int i = 0; i <= n; i++) {
            Due.is(what + " bytes(" + i + ")", m.bytes(i), x.bytes(i));
            for (int j = 0; j <= n; j++) {
                Due.is(what + " apart(" + i + ", " + j + ")", m.apart(i, j), x.apart(i, j));
            }
            if (i > 0) {
                compareType(what, x, m, i);
            }
        }
        if (n > 0) {
            Due.is(what + " write()", m.write(), x.write());
            compareOut(what + " write", x, m);
            for (int tries = 0; tries < 5; tries++) {
                compareFind(what, x, m, n);
            }
        }
    }

    private void compareType(String what, TypeFold x, Model m, int i) {
        for (int k = 0; k < 8; k++) {
            Due.is(what + " type(" + i + ", " + k + ")", m.type(i, k), x.type(i, k));
        }
        for (int k = 0; k < m.type(i, 4); k++) {
            Due.is(what + " reference(" + i + ", " + k + ")", m.reference(i, k), x.reference(i, k));
        }
        Due.is(what + " ring(" + i + ")", m.ring(i), x.ring(i));
        if (maker.rarely(4)) {
            Due.is(what + " name(" + i + ")", m.name(i), x.name(i));
            compareOut(what + " name(" + i + ")", x, m);
        }
    }

    private static void compareOut(String what, TypeFold x, Model m) {
        Due.is(what + " look(3)", m.look(3), x.look(3));
        for (int k = 0; k < m.look(3); k++) {
            Due.is(what + " out(" + k + ")", m.out(k), x.out(k));
        }
    }

    private void compareFind(String what, TypeFold x, Model m, int n) {
        String wanted = maker.name();
        Calls.feedAll(x, wanted);
        for (char c : wanted.toCharArray()) {
            m.feed(1, c);
        }
        int kind = maker.rarely(2) ? 0 : maker.below(14);
        int i = 1 + maker.below(n + 1);
        Due.is(what + " find(" + kind + ", " + i + ") of " + wanted, m.find(kind, i), x.find(kind, i));
        Due.is(what + " tape behind find", m.look(2), x.look(2));
    }
}
