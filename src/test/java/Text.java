import java.io.ByteArrayOutputStream;
import java.util.LinkedHashMap;
import java.util.Map;

/** Builds texts for the tests: types are added in order, names become places of strings. */
final class Text {
    private final ByteArrayOutputStream types = new ByteArrayOutputStream();
    private final ByteArrayOutputStream strings = new ByteArrayOutputStream();
    private final Map<String, Integer> places = new LinkedHashMap<>();

    Text() {
        strings.write(0);
        places.put("", 0);
    }

    /** The place of a name, which is put behind the strings when it is new. */
    int place(String name) {
        if (!places.containsKey(name)) {
            places.put(name, strings.size());
            letters(name);
        }
        return places.get(name);
    }

    /** Puts a name behind the strings even if it is there already. */
    int letters(String name) {
        int at = strings.size();
        for (char c : name.toCharArray()) {
            strings.write(c);
        }
        strings.write(0);
        return at;
    }

    Text words(long... words) {
        for (long w : words) {
            put4(types, w);
        }
        return this;
    }

    Text rawTypeBytes(int... bytes) {
        for (int b : bytes) {
            types.write(b);
        }
        return this;
    }

    static long info(int kind, int v, int flag) {
        return (long) flag << 31 | (long) kind << 24 | v;
    }

    Text integer(String name, int size, int bits) {
        return words(place(name), info(1, 0, 0), size, bits);
    }

    /** Kinds 2, 9, 10, 11. */
    Text leaning(int kind, long to) {
        return words(0, info(kind, 0, 0), to);
    }

    Text pointer(long to) {
        return leaning(2, to);
    }

    Text array(long element, long index, long number) {
        return words(0, info(3, 0, 0), 0, element, index, number);
    }

    /** Items: name, type, place by turns. */
    Text struct(String name, int size, Object... items) {
        return composite(4, name, 0, size, items);
    }

    Text composite(int kind, String name, int flag, long size, Object... items) {
        words(place(name), info(kind, items.length / 3, flag), size);
        return items(items);
    }

    /** Items: name, number by turns. */
    Text enumeration(String name, int flag, int size, Object... items) {
        words(place(name), info(6, items.length / 2, flag), size);
        return items(items);
    }

    Text forward(String name, int flag) {
        return words(place(name), info(7, 0, flag), 0);
    }

    Text defined(String name, long to) {
        return words(place(name), info(8, 0, 0), to);
    }

    Text function(String name, int v, long to) {
        return words(place(name), info(12, v, 0), to);
    }

    /** Items: name, type by turns. */
    Text prototype(long gives, Object... items) {
        words(0, info(13, items.length / 2, 0), gives);
        return items(items);
    }

    private Text items(Object... items) {
        for (Object x : items) {
            words(x instanceof String s ? place(s) : ((Number) x).longValue());
        }
        return this;
    }

    int typeBytes() {
        return types.size();
    }

    int stringBytes() {
        return strings.size();
    }

    byte[] done() {
        ByteArrayOutputStream all = new ByteArrayOutputStream();
        all.write(0x9f);
        all.write(0xeb);
        all.write(1);
        all.write(0);
        put4(all, 24);
        put4(all, 0);
        put4(all, types.size());
        put4(all, types.size());
        put4(all, strings.size());
        all.writeBytes(types.toByteArray());
        all.writeBytes(strings.toByteArray());
        return all.toByteArray();
    }

    /** A text with whatever numbers at 12, 16 and 20, and with whatever bytes behind them. */
    static byte[] headed(long t, long again, long s, int... behind) {
        ByteArrayOutputStream all = new ByteArrayOutputStream();
        all.writeBytes(new byte[] {(byte) 0x9f, (byte) 0xeb, 1, 0, 24, 0, 0, 0, 0, 0, 0, 0});
        put4(all, t);
        put4(all, again);
        put4(all, s);
        for (int b : behind) {
            all.write(b);
        }
        return all.toByteArray();
    }

    static void put4(ByteArrayOutputStream to, long v) {
        for (int b = 0; b < 4; b++) {
            to.write((int) (v >> 8 * b & 255));
        }
    }
}
