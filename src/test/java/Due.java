import java.util.function.LongSupplier;

/** Counts answers that are not as due, and ends a test with exit code 1 if there was one. */
final class Due {
    private static int wrong = 0;
    private static int asked = 0;
    private static int sentences = 0;
    private static int askedBefore = 0;
    private static String sentence = "";

    private Due() {
    }

    /** What is asked from here on tests these words of the document; words that nothing tests are a fault. */
    static void sentence(String words) {
        closeSentence();
        sentences++;
        sentence = words;
        askedBefore = asked;
    }

    private static void closeSentence() {
        if (!sentence.isEmpty() && asked == askedBefore) {
            wrong++;
            System.out.println("nothing tests: " + sentence);
        }
    }

    private static void tell(String fault) {
        wrong++;
        System.out.println((sentence.isEmpty() ? "" : "\"" + sentence + "\": ") + fault);
    }

    static void is(String what, long want, long got) {
        asked++;
        if (want != got) {
            tell(what + " answered " + got + ", due is " + want);
        }
    }

    static void holds(String what, boolean so) {
        asked++;
        if (!so) {
            tell(what + " does not hold");
        }
    }

    static void same(String what, String want, String got) {
        asked++;
        if (!want.equals(got)) {
            tell(what + " answered " + got + ", due is " + want);
        }
    }

    static void throwing(String what, Class<? extends RuntimeException> want, LongSupplier call) {
        asked++;
        try {
            long got = call.getAsLong();
            tell(what + " answered " + got + ", due is " + want.getSimpleName());
        } catch (RuntimeException e) {
            if (e.getClass() != want) {
                tell(what + " threw " + e + ", due is " + want.getSimpleName());
            }
        }
    }

    static void same(String what, byte[] want, byte[] got) {
        is(what + ": bytes", want.length, got.length);
        for (int k = 0; k < Math.min(want.length, got.length); k++) {
            if (want[k] != got[k]) {
                is(what + ": byte " + k, want[k] & 255, got[k] & 255);
                return;
            }
        }
    }

    static void end(String test) {
        closeSentence();
        System.out.println(test + ": " + asked + " answers" + (sentences == 0 ? "" : " to " + sentences + " sentences")
                + ", " + wrong + " not as due");
        if (wrong != 0 || asked == 0) {
            System.exit(1);
        }
    }
}
