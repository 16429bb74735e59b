import java.util.function.LongSupplier;

/** Counts answers that are not as due, and ends a test with exit code 1 if there was one. */
final class Due {
    private static int wrong = 0;
    private static int asked = 0;

    private Due() {
    }

    static void is(String what, long want, long got) {
        asked++;
        if (want != got) {
            wrong++;
            System.out.println(what + " answered " + got + ", due is " + want);
        }
    }

    static void throwing(String what, Class<? extends RuntimeException> want, LongSupplier call) {
        asked++;
        try {
            long got = call.getAsLong();
            wrong++;
            System.out.println(what + " answered " + got + ", due is " + want.getSimpleName());
        } catch (RuntimeException e) {
            if (e.getClass() != want) {
                wrong++;
                System.out.println(what + " threw " + e + ", due is " + want.getSimpleName());
            }
        }
    }

    static void same(String what, byte[] want, byte[] got) {
        is(what + ": bytes", want.length, got.length);
        for (int k = 0; k < Math.min(want.length, got.length); k++) {
            if (want[k] != got[k]) {
                is(what + ": byte " + k, want[k] & 255, got[k] & 255);
            }
        }
    }

    static void end(String test) {
        System.out.println(test + ": " + asked + " answers, " + wrong + " not as due");
        if (wrong != 0 || asked == 0) {
            System.exit(1);
        }
    }
}
