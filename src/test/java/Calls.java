/** Calls that the tests make of a TypeFold over and over. */
final class Calls {
    private Calls() {
    }

    static void feedAll(TypeFold x, byte[] bytes) {
        for (int k = 0; k < bytes.length; k += 8) {
            int n = Math.min(8, bytes.length - k);
            long v = 0;
            for (int b = 0; b < n; b++) {
                v |= (bytes[k + b] & 255L) << 8 * b;
            }
            x.feed(n, v);
        }
    }

    static void feedAll(TypeFold x, String letters) {
        byte[] bytes = new byte[letters.length()];
        for (int k = 0; k < bytes.length; k++) {
            bytes[k] = (byte) letters.charAt(k);
        }
        feedAll(x, bytes);
    }

    static int load(TypeFold x, byte[] bytes) {
        feedAll(x, bytes);
        return x.load();
    }

    static int load(TypeFold x, Text text) {
        return load(x, text.done());
    }

    static TypeFold loaded(Text text) {
        TypeFold x = new TypeFold();
        Due.is("load of a good text", 0, load(x, text));
        return x;
    }

    static byte[] written(TypeFold x) {
        int n = x.write();
        Due.is("write tells its bytes", n, x.look(3));
        return outOf(x);
    }

    static byte[] outOf(TypeFold x) {
        byte[] all = new byte[x.look(3)];
        for (int k = 0; k < all.length; k++) {
            all[k] = (byte) x.out(k);
        }
        return all;
    }
}
