import java.util.Arrays;

/** Runs of up to 512 calls with whatever arguments, of the program and of the model beside it. */
public final class RunsTest {
    private static final int CALLS = 512;

    private interface Call {
        long of();
    }

    private final Maker maker = new Maker(20261116);
    private TypeFold x = new TypeFold();
    private Model m = new Model();
    private int calls = 0;

    public static void main(String[] args) {
        RunsTest test = new RunsTest();
        for (int run = 0; run < 600; run++) {
            test.oneRun(run);
        }
        Due.end("RunsTest");
    }

    private void oneRun(int run) {
        x = new TypeFold();
        m = new Model();
        for (calls = 0; calls < CALLS; ) {
            oneCall("run " + run);
        }
    }

    private static String answer(Call call) {
        try {
            return Long.toString(call.of());
        } catch (RuntimeException e) {
            return e.getClass().getSimpleName();
        }
    }

    private void both(String run, String call, Call program, Call model) {
        calls++;
        String due = answer(model);
        String got = answer(program);
        Due.same(run + ", call " + calls + ": " + call, due, got);
    }

    /** Mostly near to what there is, now and then far from it. */
    private int near(int most) {
        if (maker.rarely(12)) {
            return new int[] {Integer.MIN_VALUE, Integer.MAX_VALUE, -1, most + 1, 200, 201}[maker.below(6)];
        }
        return maker.below(most + 3) - 1;
    }

    private void oneCall(String run) {
        int n = m.look(0);
        switch (maker.below(16)) {
            case 0: case 1:
                textFed(run);
                both(run, "load()", x::load, m::load);
                break;
            case 2: both(run, "load()", x::load, m::load); break;
            case 3: type(run, near(n), near(7)); break;
            case 4: reference(run, near(n), near(3)); break;
            case 5: case 6: apart(run, near(n), near(n)); break;
            case 7: bytes(run, near(n)); break;
            case 8: case 9: find(run, maker.rarely(2) ? 0 : near(13), near(n)); break;
            case 10: ring(run, near(n)); break;
            case 11: both(run, "write()", x::write, m::write); break;
            case 12: named(run, near(n)); break;
            case 13: case 14: out(run, near(m.look(3))); break;
            default: looks(run);
        }
    }

    private void fed(String run, int n, long v) {
        both(run, "feed(" + n + ", " + v + ")", () -> x.feed(n, v), () -> m.feed(n, v));
    }

    private void bytesFed(String run, byte[] bytes) {
        int k = 0;
        while (k < bytes.length) {
            int n = Math.min(bytes.length - k, maker.rarely(6) ? 1 + maker.below(8) : 8);
            long v = maker.rarely(2) ? 0 : -1;
            for (int b = n - 1; b >= 0; b--) {
                v = v << 8 | bytes[k + b] & 255;
            }
            fed(run, n, v);
            k += n;
        }
    }

    private void textFed(String run) {
        byte[] bytes = maker.madeText(maker.below(9), 1 + maker.below(3), 1 + maker.below(13));
        if (maker.rarely(3)) {
            maker.spoil(bytes);
        }
        if (maker.rarely(20)) {
            bytes = Arrays.copyOf(bytes, Math.max(0, bytes.length + maker.below(5) - 2));
        }
        if (maker.rarely(10)) {
            fed(run, near(9), -1);
        }
        bytesFed(run, bytes);
    }

    private void type(String run, int i, int what) {
        both(run, "type(" + i + ", " + what + ")", () -> x.type(i, what), () -> m.type(i, what));
    }

    private void reference(String run, int i, int k) {
        both(run, "reference(" + i + ", " + k + ")", () -> x.reference(i, k), () -> m.reference(i, k));
    }

    private void apart(String run, int i, int j) {
        both(run, "apart(" + i + ", " + j + ")", () -> x.apart(i, j), () -> m.apart(i, j));
    }

    private void bytes(String run, int i) {
        both(run, "bytes(" + i + ")", () -> x.bytes(i), () -> m.bytes(i));
    }

    private void find(String run, int kind, int i) {
        String name = maker.name();
        byte[] letters = new byte[name.length()];
        for (int k = 0; k < letters.length; k++) {
            letters[k] = (byte) name.charAt(k);
        }
        bytesFed(run, letters);
        both(run, "find(" + kind + ", " + i + ")", () -> x.find(kind, i), () -> m.find(kind, i));
    }

    private void ring(String run, int i) {
        both(run, "ring(" + i + ")", () -> x.ring(i), () -> m.ring(i));
    }

    private void named(String run, int i) {
        both(run, "name(" + i + ")", () -> x.name(i), () -> m.name(i));
    }

    private void out(String run, int k) {
        both(run, "out(" + k + ")", () -> x.out(k), () -> m.out(k));
    }

    private void looks(String run) {
        for (int what = -1; what <= 7; what++) {
            int w = what;
            both(run, "look(" + w + ")", () -> x.look(w), () -> m.look(w));
        }
    }
}
