import java.io.ByteArrayOutputStream;
import java.math.BigInteger;
import java.util.ArrayList;
import java.util.Arrays;
import java.util.HashSet;
import java.util.LinkedHashMap;
import java.util.List;
import java.util.Map;
import java.util.NoSuchElementException;
import java.util.Set;

/** The document once more, word by word and without a thought for speed, to compare the program with. */
final class Model {
    /** One type as read; fields hold what its bytes tell, items its members, values or parameters. */
    private static final class T {
        String name;
        int kind;
        int v;
        int flag;
        long r;
        final List<Long> extra = new ArrayList<>();
        final List<String> itemNames = new ArrayList<>();
        final List<Long> itemFirst = new ArrayList<>();
        final List<Long> itemSecond = new ArrayList<>();

        List<Long> references() {
            List<Long> all = new ArrayList<>();
            if (Set.of(2, 8, 9, 10, 11, 12, 13).contains(kind)) {
                all.add(r);
            }
            if (kind == 3) {
                all.add(extra.get(0));
                all.add(extra.get(1));
            }
            if (kind == 4 || kind == 5 || kind == 13) {
                all.addAll(itemFirst);
            }
            return all;
        }

        List<Object> label() {
            List<Object> all = new ArrayList<>(List.of(name, kind, v, flag, itemNames));
            if (Set.of(1, 3, 4, 5, 6, 7).contains(kind)) {
                all.add(r);
            }
            if (kind == 1) {
                all.add(extra.get(0));
            }
            if (kind == 3) {
                all.add(extra.get(2));
            }
            if (kind == 4 || kind == 5) {
                all.add(itemSecond);
            }
            if (kind == 6) {
                all.add(itemFirst);
            }
            return all;
        }
    }

    private static final class Refused extends Exception {
        private static final long serialVersionUID = 1L;
        final int error;
        final int stood;

        Refused(int error, int stood) {
            this.error = error;
            this.stood = stood;
        }
    }

    private final List<Byte> tape = new ArrayList<>();
    private List<T> types = new ArrayList<>();
    private byte[] out = new byte[0];
    private int error = 0;
    private int stood = 0;
    /** How deep i and j are alike; two more than there are types means to every depth. */
    private int[][] alike = {{2}};

    private static long num(byte[] b, int at, int n) {
        long sum = 0;
        for (int k = n - 1; k >= 0; k--) {
            sum = sum << 8 | b[at + k] & 255;
        }
        return sum;
    }

    int feed(int n, long v) {
        if (n < 1 || n > 8) {
            throw new IllegalArgumentException();
        }
        if (tape.size() + n > 8192) {
            throw new IllegalStateException();
        }
        for (int k = 0; k < n; k++) {
            tape.add((byte) (v >>> 8 * k));
        }
        return tape.size();
    }

    private byte[] usedTape() {
        byte[] b = new byte[tape.size()];
        for (int k = 0; k < b.length; k++) {
            b[k] = tape.get(k);
        }
        tape.clear();
        return b;
    }

    int load() {
        try {
            types = parsed(usedTape());
            alike = alikeTable();
            error = 0;
            stood = 0;
        } catch (Refused e) {
            error = e.error;
            stood = e.stood;
        }
        return error;
    }

    private static List<T> parsed(byte[] b) throws Refused {
        byte[] head = {(byte) 0x9f, (byte) 0xeb, 1, 0, 24, 0, 0, 0, 0, 0, 0, 0};
        if (b.length < 24 || !Arrays.equals(head, Arrays.copyOf(b, 12))) {
            throw new Refused(1, 0);
        }
        long t = num(b, 12, 4);
        long s = num(b, 20, 4);
        if (num(b, 16, 4) != t || b.length != 24 + t + s || s == 0) {
            throw new Refused(2, 0);
        }
        byte[] body = Arrays.copyOfRange(b, 24, 24 + (int) t);
        byte[] strings = Arrays.copyOfRange(b, 24 + (int) t, b.length);
        if (strings[0] != 0 || strings[strings.length - 1] != 0) {
            throw new Refused(2, 0);
        }
        List<T> all = new ArrayList<>();
        int items = 0;
        for (int at = 0; at < body.length; ) {
            int number = all.size() + 1;
            int[] end = {at};
            T type = parsedType(body, strings, end, number, items);
            items += type.itemNames.size();
            all.add(type);
            at = end[0];
        }
        for (T type : all) {
            for (long r : type.references()) {
                if (r > all.size()) {
                    throw new Refused(6, 0);
                }
            }
        }
        return all;
    }

    private static T parsedType(byte[] body, byte[] strings, int[] place, int number, int itemsBefore)
            throws Refused {
        int at = place[0];
        if (body.length - at < 12) {
            throw new Refused(3, number);
        }
        long info = num(body, at + 4, 4);
        T t = new T();
        t.v = (int) (info & 0xffff);
        t.kind = (int) (info / (1 << 24) % 32);
        t.flag = (int) (info / (1L << 31));
        t.r = num(body, at + 8, 4);
        int each = t.kind == 4 || t.kind == 5 ? 12 : t.kind == 6 || t.kind == 13 ? 8 : 0;
        int fixed = t.kind == 1 ? 4 : t.kind == 3 ? 12 : 0;
        long size = 12 + fixed + (long) each * t.v;
        if (at + size > body.length) {
            throw new Refused(3, number);
        }
        for (int k = 0; k < fixed; k += 4) {
            t.extra.add(num(body, at + 12 + k, 4));
        }
        boolean good = t.kind >= 1 && t.kind <= 13 && (info >> 16 & 255) == 0 && (info >> 29 & 3) == 0;
        good &= Set.of(4, 5, 6, 13).contains(t.kind) || t.v == 0 || t.kind == 12 && t.v <= 2;
        good &= t.flag == 0 || Set.of(4, 5, 6, 7).contains(t.kind);
        good &= t.kind != 1 || goodInt(t.r, t.extra.get(0));
        good &= t.kind != 6 || Set.of(1L, 2L, 4L, 8L).contains(t.r);
        good &= t.kind != 3 && t.kind != 7 || t.r == 0;
        good &= number <= 200 && (each == 0 || itemsBefore + t.v <= 600);
        if (!good) {
            throw new Refused(4, number);
        }
        t.name = nameAt(strings, num(body, at, 4), number);
        for (int k = 0; each > 0 && k < t.v; k++) {
            int item = at + 12 + each * k;
            t.itemNames.add(nameAt(strings, num(body, item, 4), number));
            t.itemFirst.add(num(body, item + 4, 4));
            t.itemSecond.add(each == 12 ? num(body, item + 8, 4) : 0L);
        }
        if (Set.of(2, 3, 9, 10, 11, 13).contains(t.kind) && !t.name.isEmpty()
                || Set.of(1, 7, 8, 12).contains(t.kind) && t.name.isEmpty()) {
            throw new Refused(5, number);
        }
        place[0] = at + (int) size;
        return t;
    }

    private static boolean goodInt(long size, long word) {
        long bits = word % 256;
        long shift = word / 65536 % 256;
        return Set.of(1L, 2L, 4L, 8L, 16L).contains(size) && word / 256 % 256 == 0 && word / (1 << 28) == 0
                && bits > 0 && bits + shift <= 8 * size;
    }

    private static String nameAt(byte[] strings, long place, int number) throws Refused {
        if (place >= strings.length) {
            throw new Refused(5, number);
        }
        StringBuilder all = new StringBuilder();
        for (int k = (int) place; strings[k] != 0; k++) {
            all.append((char) (strings[k] & 255));
        }
        return all.toString();
    }

    /** Depth by depth, by the definition of ALIKE, as deep as the types are many and two more. */
    private int[][] alikeTable() {
        int n = types.size();
        boolean[][] now = new boolean[n + 1][n + 1];
        for (boolean[] row : now) {
            Arrays.fill(row, true);
        }
        int[][] deepest = new int[n + 1][n + 1];
        List<List<Object>> labels = new ArrayList<>();
        List<List<Long>> references = new ArrayList<>();
        for (T t : types) {
            labels.add(t.label());
            references.add(t.references());
        }
        boolean changed = true;
        for (int depth = 1; depth <= n + 2; depth++) {
            if (!changed) {
                for (int i = 0; i <= n; i++) {
                    for (int j = 0; j <= n; j++) {
                        deepest[i][j] = now[i][j] ? n + 2 : deepest[i][j];
                    }
                }
                break;
            }
            changed = false;
            boolean[][] next = new boolean[n + 1][n + 1];
            for (int i = 0; i <= n; i++) {
                for (int j = 0; j <= n; j++) {
                    next[i][j] = i == 0 || j == 0 ? i == j
                            : labels.get(i - 1).equals(labels.get(j - 1))
                            && allAlike(references.get(i - 1), references.get(j - 1), now);
                    changed |= next[i][j] != now[i][j];
                    if (next[i][j]) {
                        deepest[i][j] = depth;
                    }
                }
            }
            now = next;
        }
        return deepest;
    }

    private static boolean allAlike(List<Long> a, List<Long> b, boolean[][] table) {
        for (int k = 0; k < a.size(); k++) {
            if (!table[a.get(k).intValue()][b.get(k).intValue()]) {
                return false;
            }
        }
        return true;
    }

    private boolean one(int i, int j) {
        return alike[i][j] == types.size() + 2;
    }

    private int leader(int i) {
        for (int j = 0; j < i; j++) {
            if (one(i, j)) {
                return j;
            }
        }
        return i;
    }

    private int fresh(int i) {
        int number = 0;
        for (int j = 1; j <= leader(i); j++) {
            number += leader(j) == j ? 1 : 0;
        }
        return number;
    }

    private T at(long i, int least) {
        if (i < least || i > types.size()) {
            throw new NoSuchElementException();
        }
        return i == 0 ? null : types.get((int) i - 1);
    }

    long type(int i, int what) {
        T t = at(i, 1);
        switch (what) {
            case 0: return t.kind;
            case 1: return t.v;
            case 2: return t.flag;
            case 3: return t.r;
            case 4: return t.references().size();
            case 5: return t.name.length();
            case 6: return leader(i);
            case 7: return fresh(i);
            default: throw new NoSuchElementException();
        }
    }

    int reference(int i, int k) {
        List<Long> all = at(i, 1).references();
        if (k < 0 || k >= all.size()) {
            throw new NoSuchElementException();
        }
        return all.get(k).intValue();
    }

    int apart(int i, int j) {
        at(i, 0);
        at(j, 0);
        return one(i, j) ? 0 : alike[i][j] + 1;
    }

    long bytes(int i) {
        at(i, 0);
        BigInteger size = size(i, new HashSet<>());
        return size == null ? -1 : size.longValue();
    }

    private BigInteger size(long i, Set<Long> above) {
        T t = at(i, 0);
        if (t == null || !above.add(i)) {
            return null;
        }
        switch (t.kind) {
            case 1: case 4: case 5: case 6: return BigInteger.valueOf(t.r);
            case 2: return BigInteger.valueOf(8);
            case 3: {
                BigInteger each = size(t.extra.get(0), above);
                BigInteger all = each == null ? null : each.multiply(BigInteger.valueOf(t.extra.get(2)));
                return all == null || all.compareTo(BigInteger.valueOf(1000000000000L)) > 0 ? null : all;
            }
            case 8: case 9: case 10: case 11: return size(t.r, above);
            default: return null;
        }
    }

    int find(int kind, int i) {
        if (kind < 0 || kind > 13 || i < 1) {
            throw new IllegalArgumentException();
        }
        StringBuilder wanted = new StringBuilder();
        for (byte b : usedTape()) {
            wanted.append((char) (b & 255));
        }
        for (int j = i; j <= types.size(); j++) {
            T t = types.get(j - 1);
            if (t.name.equals(wanted.toString()) && (kind == 0 || kind == t.kind)) {
                return j;
            }
        }
        return 0;
    }

    private Set<Integer> reached(int from) {
        Set<Integer> all = new HashSet<>(Set.of(from));
        List<Integer> open = new ArrayList<>(all);
        while (!open.isEmpty()) {
            int i = open.remove(open.size() - 1);
            for (long r : i == 0 ? List.<Long>of() : at(i, 1).references()) {
                if (all.add((int) r)) {
                    open.add((int) r);
                }
            }
        }
        return all;
    }

    int ring(int i) {
        at(i, 1);
        int count = 0;
        for (int j : reached(i)) {
            count += reached(j).contains(i) ? 1 : 0;
        }
        return count;
    }

    int write() {
        if (types.isEmpty()) {
            throw new IllegalStateException();
        }
        Map<String, Integer> places = new LinkedHashMap<>(Map.of("", 0));
        ByteArrayOutputStream strings = new ByteArrayOutputStream();
        strings.write(0);
        ByteArrayOutputStream body = new ByteArrayOutputStream();
        for (int i = 1; i <= types.size(); i++) {
            if (leader(i) == i) {
                writeType(types.get(i - 1), body, strings, places);
            }
        }
        ByteArrayOutputStream all = new ByteArrayOutputStream();
        all.writeBytes(new byte[] {(byte) 0x9f, (byte) 0xeb, 1, 0});
        Text.put4(all, 24);
        Text.put4(all, 0);
        Text.put4(all, body.size());
        Text.put4(all, body.size());
        Text.put4(all, strings.size());
        all.writeBytes(body.toByteArray());
        all.writeBytes(strings.toByteArray());
        if (all.size() > 16384) {
            return -1;
        }
        out = all.toByteArray();
        return out.length;
    }

    private void writeType(T t, ByteArrayOutputStream body, ByteArrayOutputStream strings,
            Map<String, Integer> places) {
        Text.put4(body, place(t.name, strings, places));
        Text.put4(body, (long) t.flag << 31 | (long) t.kind << 24 | t.v);
        Text.put4(body, t.kind == 2 || t.kind >= 8 ? fresh((int) t.r) : t.r);
        for (int k = 0; k < t.extra.size(); k++) {
            long word = t.extra.get(k);
            Text.put4(body, t.kind == 3 && k < 2 ? fresh((int) word) : word);
        }
        for (int k = 0; k < t.itemNames.size(); k++) {
            Text.put4(body, place(t.itemNames.get(k), strings, places));
            long word = t.itemFirst.get(k);
            Text.put4(body, t.kind == 6 ? word : fresh((int) word));
            if (t.kind == 4 || t.kind == 5) {
                Text.put4(body, t.itemSecond.get(k));
            }
        }
    }

    private static int place(String name, ByteArrayOutputStream strings, Map<String, Integer> places) {
        if (!places.containsKey(name)) {
            places.put(name, strings.size());
            for (char c : name.toCharArray()) {
                strings.write(c);
            }
            strings.write(0);
        }
        return places.get(name);
    }

    int name(int i) {
        String name = at(i, 1).name;
        out = new byte[name.length()];
        for (int k = 0; k < out.length; k++) {
            out[k] = (byte) name.charAt(k);
        }
        return out.length;
    }

    long out(int k) {
        if (k < 0 || k >= out.length) {
            throw new NoSuchElementException();
        }
        return num(Arrays.copyOfRange(out, k, k + 8), 0, 8);
    }

    int look(int what) {
        switch (what) {
            case 0: return types.size();
            case 1: return classes();
            case 2: return tape.size();
            case 3: return out.length;
            case 4: return error;
            case 5: return stood;
            case 6: return greatestAlike();
            default: throw new IllegalArgumentException();
        }
    }

    private int classes() {
        int count = 0;
        for (int i = 1; i <= types.size(); i++) {
            count += leader(i) == i ? 1 : 0;
        }
        return count;
    }

    private int greatestAlike() {
        int most = 0;
        for (int i = 1; i <= types.size(); i++) {
            for (int j = 1; j <= types.size(); j++) {
                most = one(i, j) ? most : Math.max(most, alike[i][j]);
            }
        }
        return most;
    }
}
