import java.util.ArrayList;
import java.util.List;

/** Makes texts and choices that look random and are the same in every run. */
final class Maker {
    private long seed;
    /** Added to every type but VOID that is told of, while a half of a text is made once more. */
    private long shift = 0;

    Maker(long seed) {
        this.seed = seed;
    }

    int below(int n) {
        seed = seed * 6364136223846793005L + 1442695040888963407L;
        return (int) Long.remainderUnsigned(seed >>> 33, n);
    }

    boolean rarely(int n) {
        return below(n) == 0;
    }

    /** A name that types of the texts may have. */
    String name() {
        return NAMES[below(NAMES.length)];
    }

    private static final String[] NAMES = {"", "a", "b", "ab", "aab", "node", "\u00ff"};

    /** Few names and few kinds, so that many types are alike. */
    byte[] madeText(int n, int names, int kinds) {
        Text text = new Text();
        List<Integer> places = new ArrayList<>(List.of(text.letters("aab")));
        places.add(places.get(0) + 1);
        places.add(places.get(0) + 2);
        for (int k = 0; k < names; k++) {
            places.add(text.letters(NAMES[1 + below(NAMES.length - 1)]));
        }
        int[] allowed = new int[kinds];
        for (int k = 0; k < kinds; k++) {
            allowed[k] = 1 + below(13);
        }
        if (rarely(2)) {
            madeTwice(text, allowed, n / 2, places);
        } else {
            for (int i = 1; i <= n; i++) {
                madeType(text, allowed[below(kinds)], n, places);
            }
        }
        return text.done();
    }

    /** The same types twice, but for at most one: so most are one with another, or differ deep down. */
    private void madeTwice(Text text, int[] allowed, int half, List<Integer> places) {
        int other = rarely(3) ? 0 : 1 + below(half + 1);
        long before = seed;
        for (shift = 0; shift <= half; shift += Math.max(1, half)) {
            seed = before;
            for (int i = 1; i <= half; i++) {
                long ahead = seed;
                if (i == other && shift > 0) {
                    seed += 99;
                }
                madeType(text, allowed[below(allowed.length)], half, places);
                seed = ahead + 12345;
            }
        }
        shift = 0;
    }

    private long anyType(int n) {
        return rarely(8) ? 0 : n < 100 && rarely(60) ? n + 1 + shift : 1 + below(Math.max(1, n)) + shift;
    }

    private long anyName(List<Integer> places) {
        return places.get(below(places.size()));
    }

    /** Place 4 is the 0 behind the first name: an empty name that isn't at place 0. */
    private long emptyName() {
        return rarely(5) ? 4 : 0;
    }

    private void madeType(Text text, int kind, int n, List<Integer> places) {
        int v = below(3);
        switch (kind) {
            case 1:
                text.words(anyName(places), Text.info(1, 0, 0), 1 << below(5), rarely(3) ? 0x01010007L : 8);
                break;
            case 3:
                text.words(emptyName(), Text.info(3, 0, 0), 0, anyType(n), anyType(n), below(3) * below(2000000));
                break;
            case 4: case 5: case 6: case 13:
                text.words(kind == 13 ? emptyName() : rarely(2) ? 0 : anyName(places),
                        Text.info(kind, v, kind == 13 ? 0 : below(2)), kind == 13 ? anyType(n) : 4L << below(2));
                madeItems(text, kind, v, n, places);
                break;
            case 7:
                text.words(anyName(places), Text.info(7, 0, below(2)), 0);
                break;
            case 8: case 12:
                text.words(anyName(places), Text.info(kind, kind == 12 ? v : 0, 0), anyType(n));
                break;
            default:
                text.words(emptyName(), Text.info(kind, 0, 0), anyType(n));
        }
    }

    private void madeItems(Text text, int kind, int v, int n, List<Integer> places) {
        for (int k = 0; k < v; k++) {
            text.words(rarely(2) ? emptyName() : anyName(places), kind == 6 ? -below(2) : anyType(n));
            if (kind == 4 || kind == 5) {
                text.words(32L * below(2));
            }
        }
    }

    void spoil(byte[] bytes) {
        int times = 1 + below(2);
        for (int k = 0; k < times; k++) {
            int at = rarely(10) ? below(24) : 24 + below(bytes.length - 24);
            bytes[at] = rarely(2) ? (byte) (bytes[at] ^ 1 << below(8)) : (byte) below(256);
        }
    }
}
