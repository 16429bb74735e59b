import java.util.NoSuchElementException;

/**
 * A folder of types: texts of types (kinds 1 to 13 of the kernel's type information) are read with
 * every refusal, types that can't be told apart become one, and the text is written anew.
 */
public final class TypeFold {
    private static final int TAPE_MOST = 8192;
    private static final int OUT_MOST = 16384;
    private static final int TYPES_MOST = 200;
    /** Members, values and parameters of all types together. */
    private static final int ITEMS_MOST = 600;
    private static final int NAMES_MOST = TYPES_MOST + ITEMS_MOST;
    /** An array has two and no items; every other type has at most one beside its items. */
    private static final int REFERENCES_MOST = 2 * TYPES_MOST + ITEMS_MOST;
    private static final long BYTES_MOST = 1000000000000L;

    private static final int MAGIC = 0xeb9f;
    private static final int HEAD = 24;

    private static final int VOID = 0;
    private static final int INT = 1;
    private static final int POINTER = 2;
    private static final int ARRAY = 3;
    private static final int STRUCT = 4;
    private static final int UNION = 5;
    private static final int ENUM = 6;
    private static final int FORWARD = 7;
    private static final int DEFINED = 8;
    private static final int VOLATILE = 9;
    private static final int CONST = 10;
    private static final int RESTRICT = 11;
    private static final int FUNCTION = 12;
    private static final int PROTOTYPE = 13;

    /** What a word (4 bytes) of a type tells. */
    private static final int PLAIN = 0;
    private static final int NAME = 1;
    private static final int TYPE = 2;

    private final Row out;
    private final Refusal refusal;
    private final Types types;
    private final Names names;
    private final Links links;
    private final Folding folding;
    private final Sizes sizes;
    /** Not final: a text that is accepted stays where it lies, and the tape goes on in the old text's row. */
    private Row tape;

    public TypeFold() {
        tape = new Row(TAPE_MOST);
        out = new Row(OUT_MOST);
        refusal = new Refusal();
        types = new Types();
        names = new Names();
        links = new Links();
        folding = new Folding();
        sizes = new Sizes();
    }

    public int feed(int n, long v) throws IllegalArgumentException, IllegalStateException {
        if (n < 1 || n > 8) {
            throw new IllegalArgumentException();
        }
        if (tape.count() + n > TAPE_MOST) {
            throw new IllegalStateException();
        }
        tape.addLowest(n, v);
        return tape.count();
    }

    public int load() {
        int error = refusal.judge(tape);
        if (error == 0) {
            tape = types.take(tape);
            names.gather(types);
            links.gather(types);
            folding.fold(types, names, links);
        }
        tape.clear();
        return error;
    }

    public long type(int i, int what) throws NoSuchElementException {
        if (!types.has(i)) {
            throw new NoSuchElementException();
        }
        switch (what) {
            case 0: return types.kind(i);
            case 1: return types.tally(i);
            case 2: return types.flag(i);
            case 3: return types.word(i, 2);
            case 4: return links.tally(i);
            case 5: return names.letters(names.own(i));
            case 6: return folding.leader(i);
            case 7: return folding.freshNumber(i);
            default: throw new NoSuchElementException();
        }
    }

    public int reference(int i, int k) throws NoSuchElementException {
        if (!types.has(i) || k < 0 || k >= links.tally(i)) {
            throw new NoSuchElementException();
        }
        return links.target(i, k);
    }

    public int apart(int i, int j) throws NoSuchElementException {
        if (!types.hasOrVoid(i) || !types.hasOrVoid(j)) {
            throw new NoSuchElementException();
        }
        return folding.depthApart(i, j);
    }

    public long bytes(int i) throws NoSuchElementException {
        if (!types.hasOrVoid(i)) {
            throw new NoSuchElementException();
        }
        return sizes.measure(types, i);
    }

    public int find(int kind, int i) throws IllegalArgumentException {
        if (kind < 0 || kind > PROTOTYPE || i < 1) {
            throw new IllegalArgumentException();
        }
        int found = leastNamedAsTape(kind, i);
        tape.clear();
        return found;
    }

    public int ring(int i) throws NoSuchElementException {
        if (!types.has(i)) {
            throw new NoSuchElementException();
        }
        return links.ringSize(i, types.count());
    }

    public int write() throws IllegalStateException {
        if (types.count() == 0) {
            throw new IllegalStateException();
        }
        int typeBytes = foldedTypeBytes();
        if (HEAD + typeBytes + names.freshBytes() > OUT_MOST) {
            return -1;
        }
        out.clear();
        putHead(typeBytes);
        for (int i = 1; i <= types.count(); i++) {
            if (folding.leader(i) == i) {
                putType(i);
            }
        }
        putStrings();
        return out.count();
    }

    public int name(int i) throws NoSuchElementException {
        if (!types.has(i)) {
            throw new NoSuchElementException();
        }
        int own = names.own(i);
        out.clear();
        out.addFrom(types.text(), names.place(own), names.letters(own));
        return out.count();
    }

    public long out(int k) throws NoSuchElementException {
        if (k < 0 || k >= out.count()) {
            throw new NoSuchElementException();
        }
        return out.number(k, 8);
    }

    public int look(int what) throws IllegalArgumentException {
        switch (what) {
            case 0: return types.count();
            case 1: return folding.classes();
            case 2: return tape.count();
            case 3: return out.count();
            case 4: return refusal.error();
            case 5: return refusal.stood();
            case 6: return folding.greatestAlike();
            default: throw new IllegalArgumentException();
        }
    }

    private int leastNamedAsTape(int kind, int from) {
        for (int i = from; i <= types.count(); i++) {
            int own = names.own(i);
            if ((kind == 0 || types.kind(i) == kind) && names.letters(own) == tape.count()
                    && types.text().same(names.place(own), tape, 0, tape.count())) {
                return i;
            }
        }
        return 0;
    }

    private int foldedTypeBytes() {
        int sum = 0;
        for (int i = 1; i <= types.count(); i++) {
            if (folding.leader(i) == i) {
                sum += 4 * types.words(i);
            }
        }
        return sum;
    }

    private void putHead(int typeBytes) {
        out.addLowest(2, MAGIC);
        out.addLowest(1, 1);
        out.addLowest(1, 0);
        out.addLowest(4, HEAD);
        out.addLowest(4, 0);
        out.addLowest(4, typeBytes);
        out.addLowest(4, typeBytes);
        out.addLowest(4, names.freshBytes());
    }

    private void putType(int i) {
        int kind = types.kind(i);
        int slot = names.slot(i);
        for (int w = 0; w < types.words(i); w++) {
            long word = types.word(i, w);
            int role = Layout.role(kind, w);
            if (role == NAME) {
                word = names.freshPlace(names.told(slot));
                slot++;
            } else if (role == TYPE) {
                word = folding.freshNumber((int) word);
            }
            out.addLowest(4, word);
        }
    }

    /**
     * All names, in the order in which all types first tell of them: a type that is no leader tells
     * of the very names of its leader, which stands ahead of it, so the leaders' order is the same.
     */
    private void putStrings() {
        out.addLowest(1, 0);
        for (int d = 1; d <= names.count(); d++) {
            out.addFrom(types.text(), names.place(d), names.letters(d));
            out.addLowest(1, 0);
        }
    }

    /** Bytes in a row, eight to a long, so that an object stays small where elements are counted. */
    private static final class Row {
        private final int most;
        private final long[] words;
        private int count;

        Row(int most) {
            this.most = most;
            words = new long[(most + 7) / 8];
            count = 0;
        }

        int count() {
            return count;
        }

        void clear() {
            count = 0;
        }

        int at(int k) {
            return (int) number(k, 1);
        }

        /** The number of n bytes from k on; those behind the end are 0, as out asks. */
        long number(int k, int n) {
            long sum = 0;
            for (int b = 0; b < n && b < 8; b++) {
                int p = k + b;
                if (p >= 0 && p < count) {
                    sum |= (words[p >> 3] >>> 8 * (p & 7) & 255) << 8 * b;
                }
            }
            return sum;
        }

        void addLowest(int n, long v) {
            for (int b = 0; b < n && b < 8; b++) {
                addByte(v >> 8 * b & 255);
            }
        }

        void addFrom(Row from, int start, int n) {
            for (int k = 0; k < n; k++) {
                addByte(from.at(start + k));
            }
        }

        boolean same(int start, Row other, int otherStart, int n) {
            for (int k = 0; k < n; k++) {
                if (at(start + k) != other.at(otherStart + k)) {
                    return false;
                }
            }
            return true;
        }

        private void addByte(long b) {
            if (count >= most) {
                return;
            }
            int shift = 8 * (count & 7);
            int k = count >> 3;
            words[k] = words[k] & ~(255L << shift) | b << shift;
            count++;
        }
    }

    /**
     * How a type lies in its bytes: words of 4 bytes each, the first its name, the second its info (V,
     * KIND and FLAG), the third R, then what follows by kind.
     */
    private static final class Layout {
        static int kind(long info) {
            return (int) (info >> 24) & 31;
        }

        static int tally(long info) {
            return (int) info & 0xffff;
        }

        static int flag(long info) {
            return (int) (info >> 31) & 1;
        }

        static int words(long info) {
            int kind = kind(info);
            return 3 + fixedWords(kind) + itemWords(kind) * tally(info);
        }

        static int fixedWords(int kind) {
            switch (kind) {
                case INT: return 1;
                case ARRAY: return 3;
                default: return 0;
            }
        }

        /** Words of each member, value or parameter. */
        static int itemWords(int kind) {
            switch (kind) {
                case STRUCT: case UNION: return 3;
                case ENUM: case PROTOTYPE: return 2;
                default: return 0;
            }
        }

        /** What word w of a type tells: names, references and labels all lie in this order. */
        static int role(int kind, int w) {
            switch (w) {
                case 0: return NAME;
                case 1: return PLAIN;
                case 2: return kind == POINTER || kind >= DEFINED ? TYPE : PLAIN;
                default: return roleBehind(kind, w - 3);
            }
        }

        private static int roleBehind(int kind, int w) {
            switch (kind) {
                case ARRAY: return w < 2 ? TYPE : PLAIN;
                case STRUCT: case UNION: return w % 3 == 0 ? NAME : w % 3 == 1 ? TYPE : PLAIN;
                case ENUM: return w % 2 == 0 ? NAME : PLAIN;
                case PROTOTYPE: return w % 2 == 0 ? NAME : TYPE;
                default: return PLAIN;
            }
        }
    }

    /** Judges a text while it is still the tape, so that the types stay when it is refused. */
    private static final class Refusal {
        private int error;
        private int stood;
        private int items;

        int error() {
            return error;
        }

        int stood() {
            return stood;
        }

        int judge(Row text) {
            stood = 0;
            error = headError(text);
            if (error == 0) {
                error = typesError(text);
            }
            return error;
        }

        private static int headError(Row text) {
            if (text.count() < HEAD || text.number(0, 2) != MAGIC || text.at(2) != 1 || text.at(3) != 0
                    || text.number(4, 4) != HEAD || text.number(8, 4) != 0) {
                return 1;
            }
            long typeBytes = text.number(12, 4);
            long stringBytes = text.number(20, 4);
            if (text.number(16, 4) != typeBytes || text.count() != HEAD + typeBytes + stringBytes
                    || stringBytes == 0) {
                return 2;
            }
            return text.at(HEAD + (int) typeBytes) != 0 || text.at(text.count() - 1) != 0 ? 2 : 0;
        }

        private int typesError(Row text) {
            int end = HEAD + (int) text.number(12, 4);
            int at = HEAD;
            long highest = 0;
            items = 0;
            for (int i = 1; i <= TYPES_MOST + 1 && at < end; i++) {
                stood = i;
                int found = typeError(text, at, end);
                if (found != 0) {
                    return found;
                }
                highest = Math.max(highest, highestReference(text, at));
                at += 4 * Layout.words(text.number(at + 4, 4));
            }
            int n = stood;
            stood = 0;
            return highest > n ? 6 : 0;
        }

        private int typeError(Row text, int at, int end) {
            long info = text.number(at + 4, 4);
            int kind = Layout.kind(info);
            // What lies behind the end may be read as info here, but never as fewer words than three.
            if (at + 4 * Layout.words(info) > end) {
                return 3;
            }
            items += Layout.itemWords(kind) == 0 ? 0 : Layout.tally(info);
            if (stood > TYPES_MOST || items > ITEMS_MOST || !infoHolds(info)
                    || !restHolds(kind, text.number(at + 8, 4), text.number(at + 12, 4))) {
                return 4;
            }
            return namesLieWithin(text, at, end) && ownNameHolds(kind, text, at, end) ? 0 : 5;
        }

        private static boolean infoHolds(long info) {
            int kind = Layout.kind(info);
            if (kind < INT || kind > PROTOTYPE || (info & 0x60ff0000L) != 0) {
                return false;
            }
            if (Layout.itemWords(kind) == 0 && Layout.tally(info) > (kind == FUNCTION ? 2 : 0)) {
                return false;
            }
            return Layout.flag(info) == 0 || kind >= STRUCT && kind <= FORWARD;
        }

        /** The word behind R counts for INT alone, which always has it. */
        private static boolean restHolds(int kind, long rest, long behind) {
            switch (kind) {
                case INT: return (isSmallSize(rest) || rest == 16) && intHolds(behind, rest);
                case ENUM: return isSmallSize(rest);
                case ARRAY: case FORWARD: return rest == 0;
                default: return true;
            }
        }

        private static boolean isSmallSize(long size) {
            return size == 1 || size == 2 || size == 4 || size == 8;
        }

        private static boolean intHolds(long word, long size) {
            long bits = word & 255;
            long shift = word >> 16 & 255;
            return (word & 0xf000ff00L) == 0 && bits >= 1 && bits + shift <= 8 * size;
        }

        private static boolean namesLieWithin(Row text, int at, int strings) {
            long info = text.number(at + 4, 4);
            int kind = Layout.kind(info);
            int words = Layout.words(info);
            for (int w = 0; w < words; w++) {
                if (Layout.role(kind, w) == NAME && strings + text.number(at + 4 * w, 4) >= text.count()) {
                    return false;
                }
            }
            return true;
        }

        /** A name is empty by having no letters, wherever among the strings it is told to be. */
        private static boolean ownNameHolds(int kind, Row text, int at, int strings) {
            boolean empty = text.at(strings + (int) text.number(at, 4)) == 0;
            switch (kind) {
                case STRUCT: case UNION: case ENUM: return true;
                case INT: case FORWARD: case DEFINED: case FUNCTION: return !empty;
                default: return empty;
            }
        }

        private static long highestReference(Row text, int at) {
            long info = text.number(at + 4, 4);
            int kind = Layout.kind(info);
            int words = Layout.words(info);
            long highest = 0;
            for (int w = 0; w < words; w++) {
                if (Layout.role(kind, w) == TYPE) {
                    highest = Math.max(highest, text.number(at + 4 * w, 4));
                }
            }
            return highest;
        }
    }

    /** The types of the latest text that was accepted. */
    private static final class Types {
        private final int[] at;
        private final long[] info;
        private final int[] words;
        private Row text;
        private int count;
        private int strings;

        Types() {
            at = new int[TYPES_MOST + 1];
            info = new long[TYPES_MOST + 1];
            words = new int[TYPES_MOST + 1];
            text = new Row(TAPE_MOST);
            count = 0;
            strings = 0;
        }

        /** Takes an accepted text and gives back the row of the one before, which is of no use any more. */
        Row take(Row accepted) {
            Row old = text;
            text = accepted;
            count = 0;
            strings = HEAD + (int) text.number(12, 4);
            int next = HEAD;
            for (int i = 1; i <= TYPES_MOST && next < strings; i++) {
                at[i] = next;
                info[i] = text.number(next + 4, 4);
                words[i] = Layout.words(info[i]);
                count = i;
                next += 4 * words[i];
            }
            return old;
        }

        Row text() {
            return text;
        }

        int strings() {
            return strings;
        }

        int count() {
            return count;
        }

        boolean has(int i) {
            return i >= 1 && i <= count;
        }

        boolean hasOrVoid(int i) {
            return i == VOID || has(i);
        }

        int kind(int i) {
            return has(i) ? Layout.kind(info[i]) : VOID;
        }

        int tally(int i) {
            return has(i) ? Layout.tally(info[i]) : 0;
        }

        int flag(int i) {
            return has(i) ? Layout.flag(info[i]) : 0;
        }

        int words(int i) {
            return has(i) ? words[i] : 0;
        }

        long word(int i, int w) {
            return has(i) ? text.number(at[i] + 4 * w, 4) : 0;
        }
    }

    /**
     * The different names, numbered from 1 on in the order in which the types tell of them; 0 is the
     * empty one. A slot is a word of some type that tells of a name.
     */
    private static final class Names {
        private final int[] slot;
        private final int[] told;
        private final int[] place;
        private final int[] letters;
        private final int[] fresh;
        private int slots;
        private int count;
        private int freshBytes;

        Names() {
            slot = new int[TYPES_MOST + 1];
            told = new int[NAMES_MOST];
            place = new int[NAMES_MOST + 1];
            letters = new int[NAMES_MOST + 1];
            fresh = new int[NAMES_MOST + 1];
            slots = 0;
            count = 0;
            freshBytes = 1;
        }

        void gather(Types types) {
            slots = 0;
            count = 0;
            freshBytes = 1;
            for (int i = 1; i <= types.count() && i < slot.length; i++) {
                slot[i] = slots;
                gatherOf(types, i);
            }
        }

        /** The first slot of a type, which is its own name's. */
        int slot(int i) {
            return i >= 1 && i < slot.length ? slot[i] : 0;
        }

        int told(int s) {
            return s >= 0 && s < slots ? told[s] : 0;
        }

        int own(int i) {
            return told(slot(i));
        }

        int count() {
            return count;
        }

        /** Where a name begins in the text. */
        int place(int d) {
            return isName(d) ? place[d] : 0;
        }

        int letters(int d) {
            return isName(d) ? letters[d] : 0;
        }

        /** Where a name begins among the strings written anew. */
        int freshPlace(int d) {
            return isName(d) ? fresh[d] : 0;
        }

        int freshBytes() {
            return freshBytes;
        }

        private boolean isName(int d) {
            return d >= 1 && d <= count;
        }

        private void gatherOf(Types types, int i) {
            int kind = types.kind(i);
            int words = types.words(i);
            for (int w = 0; w < words; w++) {
                if (Layout.role(kind, w) == NAME && slots < told.length) {
                    told[slots] = numberOf(types.text(), types.strings() + (int) types.word(i, w));
                    slots++;
                }
            }
        }

        private int numberOf(Row text, int start) {
            int n = lettersFrom(text, start);
            if (n == 0) {
                return 0;
            }
            for (int d = 1; d <= count; d++) {
                if (letters[d] == n && (place[d] == start || text.same(start, text, place[d], n))) {
                    return d;
                }
            }
            return added(start, n);
        }

        private static int lettersFrom(Row text, int start) {
            int end = start;
            while (end < text.count() && text.at(end) != 0) {
                end++;
            }
            return end - start;
        }

        private int added(int start, int n) {
            if (count >= NAMES_MOST) {
                return 0;
            }
            count++;
            place[count] = start;
            letters[count] = n;
            fresh[count] = freshBytes;
            freshBytes += n + 1;
            return count;
        }
    }

    /** The references of all types in one row, and the same ones turned round. */
    private static final class Links {
        private final int[] start;
        private final int[] to;
        private final int[] backStart;
        private final int[] back;
        private final int[] queue;
        private final boolean[] onward;
        private final boolean[] backward;

        Links() {
            start = new int[TYPES_MOST + 2];
            to = new int[REFERENCES_MOST];
            backStart = new int[TYPES_MOST + 2];
            back = new int[REFERENCES_MOST];
            queue = new int[TYPES_MOST + 1];
            onward = new boolean[TYPES_MOST + 1];
            backward = new boolean[TYPES_MOST + 1];
        }

        void gather(Types types) {
            int n = types.count();
            int filled = 0;
            start[0] = 0;
            for (int i = 0; i <= n && i <= TYPES_MOST; i++) {
                filled = gatherOf(types, i, filled);
                start[i + 1] = filled;
            }
            turnRound(n);
        }

        int tally(int i) {
            return i >= 0 && i <= TYPES_MOST ? start[i + 1] - start[i] : 0;
        }

        int target(int i, int k) {
            return k >= 0 && k < tally(i) ? to[start[i] + k] : VOID;
        }

        /** Those that type i comes to and that come to it, by whatever ways. */
        int ringSize(int i, int n) {
            spread(start, to, i, onward);
            spread(backStart, back, i, backward);
            int size = 0;
            for (int j = 1; j <= n && j <= TYPES_MOST; j++) {
                if (onward[j] && backward[j]) {
                    size++;
                }
            }
            return size;
        }

        private int gatherOf(Types types, int i, int filled) {
            int kind = types.kind(i);
            int words = types.words(i);
            int next = filled;
            for (int w = 0; w < words; w++) {
                if (Layout.role(kind, w) == TYPE && next < to.length) {
                    to[next] = (int) types.word(i, w);
                    next++;
                }
            }
            return next;
        }

        private void turnRound(int n) {
            for (int j = 0; j < backStart.length; j++) {
                backStart[j] = 0;
            }
            for (int r = 0; r < start[n + 1]; r++) {
                backStart[to[r] + 1]++;
            }
            for (int j = 0; j <= n; j++) {
                queue[j] = backStart[j];
                backStart[j + 1] += backStart[j];
            }
            for (int i = 1; i <= n; i++) {
                for (int r = start[i]; r < start[i + 1]; r++) {
                    back[queue[to[r]]] = i;
                    queue[to[r]]++;
                }
            }
        }

        private void spread(int[] from, int[] ends, int i, boolean[] reached) {
            for (int j = 0; j < reached.length; j++) {
                reached[j] = false;
            }
            queue[0] = i;
            reached[i] = true;
            int filled = 1;
            for (int q = 0; q < filled && q < queue.length; q++) {
                for (int r = from[queue[q]]; r < from[queue[q] + 1]; r++) {
                    if (!reached[ends[r]] && filled < queue.length) {
                        reached[ends[r]] = true;
                        queue[filled] = ends[r];
                        filled++;
                    }
                }
            }
        }
    }

    /**
     * Classes of types that are alike, from depth to depth; at depth 0 all are in class 0, VOID too.
     * A class that splits goes on as the class of its first type, which so stays its leader; the others
     * are born of it at that depth, so that the births alone tell how deep any two types are alike.
     */
    private static final class Folding {
        private final int[] now;
        private final int[] was;
        private final int[] first;
        private final int[] sibling;
        private final int[] parent;
        private final int[] birth;
        private final int[] fresh;
        private int count;
        private int latestBirth;

        Folding() {
            now = new int[TYPES_MOST + 1];
            was = new int[TYPES_MOST + 1];
            first = new int[TYPES_MOST + 1];
            sibling = new int[TYPES_MOST + 1];
            parent = new int[TYPES_MOST + 1];
            birth = new int[TYPES_MOST + 1];
            fresh = new int[TYPES_MOST + 1];
            count = 1;
            latestBirth = 0;
        }

        void fold(Types types, Names names, Links links) {
            int n = types.count();
            for (int i = 0; i <= n; i++) {
                now[i] = 0;
            }
            first[0] = VOID;
            count = 1;
            latestBirth = 0;
            // Every round but the last splits a class, and with VOID's there are at most TYPES_MOST + 1.
            boolean split = true;
            for (int depth = 1; depth <= TYPES_MOST + 1 && split; depth++) {
                split = refine(depth, types, names, links);
            }
            numberLeaders(n);
        }

        int leader(int i) {
            return first[now[i]];
        }

        int freshNumber(int i) {
            return fresh[leader(i)];
        }

        /** VOID is a class of its own, which isn't told of. */
        int classes() {
            return count - 1;
        }

        int greatestAlike() {
            return Math.max(0, latestBirth - 1);
        }

        /** Goes back along the births, the latest first, until both were in one class. */
        int depthApart(int i, int j) {
            int a = now[i];
            int b = now[j];
            int depth = 0;
            for (int steps = 0; steps < 2 * count && a != b; steps++) {
                if (birth[a] >= birth[b]) {
                    depth = birth[a];
                    a = parent[a];
                } else {
                    depth = birth[b];
                    b = parent[b];
                }
            }
            return depth;
        }

        private boolean refine(int depth, Types types, Names names, Links links) {
            int before = count;
            for (int c = 0; c < count; c++) {
                sibling[c] = -1;
            }
            for (int i = 0; i <= types.count(); i++) {
                was[i] = now[i];
            }
            for (int i = 0; i <= types.count(); i++) {
                int c = was[i];
                for (int steps = 0; steps <= count && !alike(first[c], i, depth, types, names, links); steps++) {
                    if (sibling[c] < 0) {
                        sibling[c] = born(was[i], i, depth);
                    }
                    c = sibling[c];
                }
                now[i] = c;
            }
            return count > before;
        }

        private int born(int from, int i, int depth) {
            int c = count;
            count++;
            first[c] = i;
            sibling[c] = -1;
            parent[c] = from;
            birth[c] = depth;
            latestBirth = depth;
            return c;
        }

        /** Of two that were in one class: from depth 2 on their labels have been found the same. */
        private boolean alike(int a, int b, int depth, Types types, Names names, Links links) {
            if (a == b) {
                return true;
            }
            return depth == 1 ? sameLabel(a, b, types, names) : sameTargets(a, b, links);
        }

        private static boolean sameLabel(int a, int b, Types types, Names names) {
            if (a == VOID || b == VOID || types.word(a, 1) != types.word(b, 1)) {
                return false;
            }
            int kind = types.kind(a);
            int words = types.words(a);
            int slotA = names.slot(a);
            int slotB = names.slot(b);
            for (int w = 0; w < words; w++) {
                int role = Layout.role(kind, w);
                if (role == NAME) {
                    if (names.told(slotA) != names.told(slotB)) {
                        return false;
                    }
                    slotA++;
                    slotB++;
                } else if (role == PLAIN && types.word(a, w) != types.word(b, w)) {
                    return false;
                }
            }
            return true;
        }

        private boolean sameTargets(int a, int b, Links links) {
            int tally = links.tally(a);
            for (int k = 0; k < tally; k++) {
                if (was[links.target(a, k)] != was[links.target(b, k)]) {
                    return false;
                }
            }
            return true;
        }

        private void numberLeaders(int n) {
            int number = 0;
            for (int i = 1; i <= n; i++) {
                if (leader(i) == i) {
                    number++;
                    fresh[i] = number;
                }
            }
        }
    }

    /** How many bytes types have. */
    private static final class Sizes {
        private final int[] path;

        Sizes() {
            path = new int[TYPES_MOST + 1];
        }

        /** The way to the type that has bytes of its own is kept, since an array counts from within. */
        long measure(Types types, int i) {
            int steps = 0;
            int at = i;
            while (steps < types.count() && leansOnAnother(types.kind(at))) {
                path[steps] = at;
                steps++;
                at = (int) types.word(at, types.kind(at) == ARRAY ? 3 : 2);
            }
            // As many steps as there are types, and still on the way: it came to itself.
            long size = ownBytes(types, at);
            for (int k = steps - 1; k >= 0 && size >= 0; k--) {
                if (types.kind(path[k]) == ARRAY) {
                    size = times(size, types.word(path[k], 5));
                }
            }
            return size;
        }

        private static boolean leansOnAnother(int kind) {
            switch (kind) {
                case ARRAY: case DEFINED: case VOLATILE: case CONST: case RESTRICT: return true;
                default: return false;
            }
        }

        private static long ownBytes(Types types, int i) {
            switch (types.kind(i)) {
                case INT: case STRUCT: case UNION: case ENUM: return types.word(i, 2);
                case POINTER: return 8;
                default: return -1;
            }
        }

        private static long times(long size, long number) {
            if (size == 0 || number == 0) {
                return 0;
            }
            return number > BYTES_MOST / size ? -1 : size * number;
        }
    }
}
