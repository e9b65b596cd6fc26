import java.util.Arrays;
import java.util.NoSuchElementException;

/**
 * A network of nodes and lines that is taken apart in alike parts.
 * The document's promises are named at the methods that keep them.
 */
public final class PartedNet {
    public static final int NONE = -1;

    private static final int TRIANGLE = 0;
    private static final int PATH = 1;
    private static final int STAR = 2;
    private static final int RING = 3;

    private static final int LEAST_NODES = 2;
    private static final int MOST_NODES = 11;
    private static final int MOST_LINES = 55;
    private static final int MOST_PLACES = 5;
    private static final int MOST_BASES = 4;
    private static final int MOST_BASE_NODE = 30;
    private static final int LEAST_ROUND = 3;
    private static final int MOST_ROUND = 31;
    private static final int MOST_BYTES = 300;
    private static final int MOST_ACTS = 8;
    private static final int MOST_STEPS = 20000;
    private static final int MOST_CLASSED = 14;

    private static final int MISSING = 0;
    private static final int UNFIT = 1;
    private static final int UNTIMELY = 2;

    private final byte[] tape = new byte[MOST_BYTES];
    private int taped = 0;
    private int faultPlace = NONE;
    private final Net net = new Net();
    private final Acts acts = new Acts();
    private final Reader reader = new Reader();
    private final Catalog catalog = new Catalog();
    private final Walk walk = new Walk();
    private final Sharing sharing = new Sharing();
    private final int[] asked = new int[MOST_PLACES];
    private final int[] refused = new int[3];

    /** Promise 1: "nodes 3; all;". */
    public PartedNet() {
        net.nodes = 3;
        net.network = 7L;
    }

    /** Promise 2. */
    public int feed(int a, int b, int c, int d, int e) {
        if (taped + 20 > MOST_BYTES) {
            return NONE;
        }
        tapeNumber(a);
        tapeNumber(b);
        tapeNumber(c);
        tapeNumber(d);
        tapeNumber(e);
        return taped;
    }

    private void tapeNumber(int number) {
        for (int shift = 24; shift >= 0; shift -= 8) {
            if (taped >= 0 && taped < tape.length) {
                tape[taped] = (byte) (number >>> shift);
                taped++;
            }
        }
    }

    /** Promise 3. */
    public int text(int n) throws IllegalArgumentException {
        if (n < 0 || n > taped) {
            refused[UNFIT]++;
            throw new IllegalArgumentException("not so many bytes on the tape");
        }
        taped = 0;
        int fault = reader.read(tape, n);
        if (fault != 0) {
            faultPlace = reader.faultPlace;
            return fault - 10;
        }
        faultPlace = NONE;
        acts.keep(net);
        net.become(reader.draft);
        return Long.bitCount(net.leftLines());
    }

    /** Promise 4. */
    public int fault() {
        return faultPlace;
    }

    /** Promise 5. */
    public int put(int a, int b, int c, int d, int e) throws IllegalArgumentException, IllegalStateException {
        asked[0] = a;
        asked[1] = b;
        asked[2] = c;
        asked[3] = d;
        asked[4] = e;
        long lines = net.linesOfPart(asked, 0, nodesAsked());
        if (lines == 0L) {
            refused[UNFIT]++;
            throw new IllegalArgumentException("no part of the shape");
        }
        if ((lines & ~net.leftLines()) != 0L) {
            refused[UNTIMELY]++;
            throw new IllegalStateException("a line of it is not left");
        }
        acts.keep(net);
        net.putIn(lines);
        return net.partCount;
    }

    /** One that stands behind NONE makes NONE one of the first so many, which is no node. */
    private int nodesAsked() {
        int count = 0;
        for (int i = 0; i < asked.length; i++) {
            if (asked[i] != NONE) {
                count++;
            }
        }
        return count;
    }

    /** Promise 6. */
    public int take(int part) throws NoSuchElementException {
        requirePart(part);
        acts.keep(net);
        net.takeOut(part);
        return net.partCount;
    }

    /** Promise 7. */
    public int exchange(int one, int other, int k) throws NoSuchElementException, IllegalArgumentException {
        requireTwoParts(one, other);
        catalog.fit(net);
        long first = net.parts[one];
        long second = net.parts[other];
        int count = catalog.couples(first, second, NONE);
        if (k < 0 || k >= count) {
            refused[MISSING]++;
            throw new NoSuchElementException("no such exchange");
        }
        catalog.couples(first, second, k);
        acts.keep(net);
        net.parts[one] = catalog.found;
        net.parts[other] = (first | second) & ~catalog.found;
        return count;
    }

    private void requirePart(int part) {
        if (!net.hasPart(part)) {
            refused[MISSING]++;
            throw new NoSuchElementException("no such part");
        }
    }

    private void requireTwoParts(int one, int other) {
        requirePart(one);
        requirePart(other);
        if (one == other) {
            refused[UNFIT]++;
            throw new IllegalArgumentException("both parts are one");
        }
    }

    /** Promise 8. */
    public int finish() {
        catalog.fit(net);
        walk.go(catalog, net.leftLines(), true);
        if (walk.ways == 0) {
            return NONE;
        }
        acts.keep(net);
        for (int i = 0; i < walk.wayLength && i < walk.way.length; i++) {
            net.putIn(walk.way[i]);
        }
        return walk.wayLength;
    }

    /** Promise 9. */
    public int develop() throws IllegalStateException {
        if (!net.canDevelop()) {
            refused[UNTIMELY]++;
            throw new IllegalStateException("the bases are not good");
        }
        acts.keep(net);
        net.developBases();
        return net.partCount;
    }

    /** Promise 10. */
    public int undo() {
        if (acts.count == 0) {
            return NONE;
        }
        acts.takeBack(net);
        return acts.count;
    }

    /** Promise 11. */
    public int told(int what) throws IllegalArgumentException {
        requireWhat(what, 8);
        switch (what) {
            case 0:
                return net.nodes;
            case 1:
                return Long.bitCount(net.network);
            case 2:
                return net.shape;
            case 3:
                return net.size;
            case 4:
                return net.partCount;
            case 5:
                return Long.bitCount(net.leftLines());
            case 6:
                return net.baseCount;
            case 7:
                return taped;
            default:
                return acts.count;
        }
    }

    private void requireWhat(int what, int most) {
        if (what < 0 || what > most) {
            refused[UNFIT]++;
            throw new IllegalArgumentException("nothing such is told");
        }
    }

    private void requireNode(int node) {
        if (!net.hasNode(node)) {
            refused[MISSING]++;
            throw new NoSuchElementException("no such node");
        }
    }

    /** Promise 12. */
    public int line(int a, int b, int what) throws NoSuchElementException, IllegalArgumentException {
        requireNode(a);
        requireNode(b);
        if (a == b) {
            refused[UNFIT]++;
            throw new IllegalArgumentException("both nodes are one");
        }
        requireWhat(what, 2);
        int number = net.lineNumber(a, b);
        if (what == 0) {
            return number;
        }
        if (what == 1) {
            return (int) (net.network >>> number & 1L);
        }
        return net.partWith(1L << number);
    }

    /** Promise 13. */
    public int node(int node, int what) throws NoSuchElementException, IllegalArgumentException {
        requireNode(node);
        requireWhat(what, 2);
        long lines = net.linesAt(node);
        if (what == 0) {
            return Long.bitCount(net.network & lines);
        }
        if (what == 1) {
            return Long.bitCount(net.leftLines() & lines);
        }
        return net.partsMeeting(lines);
    }

    /** Promise 14. */
    public int part(int part, int i) throws NoSuchElementException {
        requirePart(part);
        if (i < 0 || i >= net.size) {
            return NONE;
        }
        long lines = net.parts[part];
        for (int ahead = 0; ahead < i; ahead++) {
            lines &= lines - 1L;
        }
        return leastLine(lines);
    }

    /** Promise 15. */
    public long left() {
        return net.leftLines();
    }

    /** Promise 16. */
    public int parts(int what) throws IllegalArgumentException {
        requireWhat(what, 1);
        catalog.fit(net);
        return what == 0 ? catalog.count : catalog.countWithin(net.leftLines());
    }

    /** Promise 17. */
    public long partAt(int k) throws NoSuchElementException {
        catalog.fit(net);
        long lines = k < 0 ? 0L : catalog.within(net.leftLines(), k);
        if (lines == 0L) {
            refused[MISSING]++;
            throw new NoSuchElementException("no such part");
        }
        return lines;
    }

    /** Promise 18. */
    public int tests() {
        long left = net.leftLines();
        int bits = 0;
        if (net.size > 0 && Long.bitCount(left) % net.size != 0) {
            bits |= 1;
        }
        if (net.isClosed() && net.hasOddNode(left)) {
            bits |= 2;
        }
        return bits;
    }

    /** Promise 19. */
    public int search(int what) throws IllegalArgumentException {
        requireWhat(what, 2);
        catalog.fit(net);
        walk.go(catalog, net.leftLines(), false);
        if (what == 0) {
            return walk.ways;
        }
        if (what == 1) {
            return walk.steps;
        }
        return walk.cut ? 0 : 1;
    }

    /** Promise 20. */
    public int exchanges(int one, int other) throws NoSuchElementException, IllegalArgumentException {
        requireTwoParts(one, other);
        catalog.fit(net);
        return catalog.couples(net.parts[one], net.parts[other], NONE);
    }

    /** Promise 21. */
    public int classes() throws IllegalStateException {
        if (net.partCount > MOST_CLASSED) {
            refused[UNTIMELY]++;
            throw new IllegalStateException("too many parts");
        }
        return sharing.fewest(net);
    }

    /** Promise 22. */
    public int cover(int n, int d) throws IllegalArgumentException {
        requireRound(n);
        if (d < 1 || d > n / 2) {
            refused[UNFIT]++;
            throw new IllegalArgumentException("no such difference");
        }
        return net.coverOf(n, d);
    }

    private void requireRound(int n) {
        if (n < LEAST_ROUND || n > MOST_ROUND) {
            refused[UNFIT]++;
            throw new IllegalArgumentException("no such ring of nodes");
        }
    }

    /** Promise 23. */
    public int good(int n) throws IllegalArgumentException {
        requireRound(n);
        return net.badDifference(n);
    }

    /** Promise 24. */
    public int base(int base, int i) throws NoSuchElementException {
        if (base < 0 || base >= net.baseCount) {
            refused[MISSING]++;
            throw new NoSuchElementException("no such base");
        }
        if (i < 0 || i >= net.places()) {
            return NONE;
        }
        return net.baseNode(base, i);
    }

    /** Promise 25. */
    public long print() {
        long print = net.leftLines();
        for (int i = 0; i < net.partCount && i < net.parts.length; i++) {
            print = 31L * print + net.parts[i];
        }
        return print;
    }

    /** Promise 26. */
    public int status(int what) {
        if (what < 0 || what >= refused.length) {
            return NONE;
        }
        return refused[what];
    }

    private static int leastLine(long lines) {
        return Long.bitCount((lines & -lines) - 1L);
    }

    /** Nodes, network, shape, what is put in and the bases: all that an act changes. */
    private static final class Net {
        int nodes = LEAST_NODES;
        long network = 0L;
        int shape = TRIANGLE;
        int size = 3;
        int partCount = 0;
        int baseCount = 0;
        final long[] parts = new long[MOST_LINES];
        /** Base by base, MOST_PLACES for each. */
        final int[] bases = new int[MOST_BASES * MOST_PLACES];
        private final int[] shifted = new int[MOST_PLACES];

        void become(Net other) {
            nodes = other.nodes;
            network = other.network;
            shape = other.shape;
            size = other.size;
            partCount = other.partCount;
            baseCount = other.baseCount;
            System.arraycopy(other.parts, 0, parts, 0, parts.length);
            System.arraycopy(other.bases, 0, bases, 0, bases.length);
        }

        void empty(int newNodes) {
            nodes = newNodes;
            network = 0L;
            shape = TRIANGLE;
            size = 3;
            partCount = 0;
            baseCount = 0;
        }

        boolean isClosed() {
            return shape == TRIANGLE || shape == RING;
        }

        /** How many nodes a part has. */
        int places() {
            return isClosed() ? size : size + 1;
        }

        /** The place, among a part's nodes as they are told, where its i-th line begins. */
        int lineStart(int i) {
            return shape == STAR ? 0 : i;
        }

        int lineEnd(int i) {
            return isClosed() && i + 1 == size ? 0 : i + 1;
        }

        boolean hasNode(int node) {
            return node >= 0 && node < nodes;
        }

        boolean hasPart(int part) {
            return part >= 0 && part < partCount && part < parts.length;
        }

        /** Of two unlike nodes that there are. */
        int lineNumber(int a, int b) {
            int low = Math.min(a, b);
            int high = Math.max(a, b);
            return low * nodes - low * (low + 1) / 2 + high - low - 1;
        }

        long allLines() {
            return (1L << nodes * (nodes - 1) / 2) - 1L;
        }

        long linesAt(int node) {
            long lines = 0L;
            for (int other = 0; other < nodes; other++) {
                if (other != node) {
                    lines |= 1L << lineNumber(node, other);
                }
            }
            return lines;
        }

        long leftLines() {
            long left = network;
            for (int i = 0; i < partCount && i < parts.length; i++) {
                left &= ~parts[i];
            }
            return left;
        }

        int partWith(long lines) {
            for (int i = 0; i < partCount && i < parts.length; i++) {
                if ((parts[i] & lines) != 0L) {
                    return i;
                }
            }
            return NONE;
        }

        int partsMeeting(long lines) {
            int count = 0;
            for (int i = 0; i < partCount && i < parts.length; i++) {
                if ((parts[i] & lines) != 0L) {
                    count++;
                }
            }
            return count;
        }

        boolean hasOddNode(long lines) {
            for (int node = 0; node < nodes; node++) {
                if (Long.bitCount(lines & linesAt(node)) % 2 != 0) {
                    return true;
                }
            }
            return false;
        }

        void putIn(long lines) {
            if (partCount >= 0 && partCount < parts.length) {
                parts[partCount] = lines;
                partCount++;
            }
        }

        void takeOut(int part) {
            if (!hasPart(part)) {
                return;
            }
            for (int i = part; i + 1 < partCount && i + 1 < parts.length; i++) {
                parts[i] = parts[i + 1];
            }
            partCount--;
        }

        /** Whether so many numbers, all unlike and 0 to most, tell a part. */
        boolean tellsPart(int[] row, int from, int count, int most) {
            if (count != places() || from < 0 || from + count > row.length) {
                return false;
            }
            for (int i = from; i < from + count; i++) {
                if (row[i] < 0 || row[i] > most) {
                    return false;
                }
                for (int j = from; j < i; j++) {
                    if (row[j] == row[i]) {
                        return false;
                    }
                }
            }
            return true;
        }

        /** The lines of the part that these nodes tell; 0 if they tell none. */
        long linesOfPart(int[] row, int from, int count) {
            if (!tellsPart(row, from, count, nodes - 1)) {
                return 0L;
            }
            long lines = 0L;
            for (int i = 0; i < size; i++) {
                int start = from + lineStart(i);
                int end = from + lineEnd(i);
                if (start < row.length && end < row.length) {
                    lines |= 1L << lineNumber(row[start], row[end]);
                }
            }
            return lines;
        }

        int baseNode(int base, int i) {
            int at = base * MOST_PLACES + i;
            return at >= 0 && at < bases.length ? bases[at] : 0;
        }

        /** The difference round n nodes, n being above 0. */
        private int difference(int a, int b, int n) {
            int ahead = Math.floorMod(a - b, n);
            return Math.min(ahead, Math.floorMod(n - ahead, n));
        }

        int coverOf(int n, int d) {
            if (n < 1) {
                return 0;
            }
            int cover = 0;
            for (int base = 0; base < baseCount; base++) {
                for (int i = 0; i < size; i++) {
                    int start = baseNode(base, lineStart(i));
                    int end = baseNode(base, lineEnd(i));
                    if (difference(start, end, n) == d) {
                        cover++;
                    }
                }
            }
            return cover;
        }

        /** The least difference round n nodes that is not covered as good bases cover it. */
        int badDifference(int n) {
            for (int d = 0; 2 * d <= n; d++) {
                int due = d == 0 || 2 * d == n ? 0 : 1;
                if (coverOf(n, d) != due) {
                    return d;
                }
            }
            return NONE;
        }

        private long shiftedPart(int base, int shift) {
            if (nodes < 1) {
                return 0L;
            }
            for (int i = 0; i < shifted.length; i++) {
                shifted[i] = Math.floorMod(baseNode(base, i) + shift, nodes);
            }
            return linesOfPart(shifted, 0, places());
        }

        /** A path's base may meet itself round the ring though all its differences are good. */
        boolean canDevelop() {
            if (nodes < LEAST_ROUND || badDifference(nodes) != NONE) {
                return false;
            }
            for (int base = 0; base < baseCount; base++) {
                if (shiftedPart(base, 0) == 0L) {
                    return false;
                }
            }
            return true;
        }

        void developBases() {
            partCount = 0;
            network = 0L;
            for (int base = 0; base < baseCount; base++) {
                for (int shift = 0; shift < nodes; shift++) {
                    long lines = shiftedPart(base, shift);
                    // Every line of a covered difference is in just one shifted part.
                    network |= lines;
                    putIn(lines);
                }
            }
        }
    }

    /** What there was ahead of the latest acts, in a ring of slots. */
    private static final class Acts {
        int count = 0;
        private int next = 0;
        private final Net[] slots = new Net[MOST_ACTS];

        Acts() {
            for (int i = 0; i < slots.length; i++) {
                slots[i] = new Net();
            }
        }

        void keep(Net net) {
            Net slot = slotAt(next);
            if (slot != null) {
                slot.become(net);
                next = next + 1 == MOST_ACTS ? 0 : next + 1;
                count = Math.min(count + 1, MOST_ACTS);
            }
        }

        void takeBack(Net net) {
            int latest = next == 0 ? MOST_ACTS - 1 : next - 1;
            Net slot = slotAt(latest);
            if (slot != null && count > 0) {
                net.become(slot);
                next = latest;
                count--;
            }
        }

        private Net slotAt(int at) {
            return at >= 0 && at < slots.length ? slots[at] : null;
        }
    }

    /** Reads a text, token by token, into a draft of all that it tells. */
    private static final class Reader {
        private static final int END = 0;
        private static final int WORD = 1;
        private static final int NUMBER = 2;
        private static final int STOP = 3;
        private static final int OTHER = 4;
        /** A part takes six bytes of a text at least. */
        private static final int MOST_PARTS = MOST_BYTES / 6;
        private static final int HUGE = 1000;

        final Net draft = new Net();
        int faultPlace = NONE;
        private int fault = 0;
        private byte[] bytes = new byte[0];
        private int length = 0;
        private int start = 0;
        private int end = 0;
        private int kind = END;
        private int value = 0;
        private boolean shaped = false;
        private int partCount = 0;
        private int baseCount = 0;
        private final int[] partNodes = new int[MOST_PARTS * MOST_PLACES];
        private final int[] partLengths = new int[MOST_PARTS];
        private final int[] baseLengths = new int[MOST_BASES];

        /** The fault, or 0. */
        int read(byte[] text, int n) {
            bytes = text;
            length = Math.min(n, text.length);
            end = 0;
            fault = 0;
            faultPlace = NONE;
            shaped = false;
            partCount = 0;
            baseCount = 0;
            boolean fits = readHead();
            // Each entry has a byte at least.
            for (int entry = 0; entry < MOST_BYTES && fits && kind != END; entry++) {
                fits = readEntry() && passStop();
            }
            if (fits && !settle()) {
                fault = 4;
                faultPlace = length;
            }
            return fault;
        }

        private boolean readHead() {
            advance();
            if (!isWord("nodes")) {
                return refuse(1);
            }
            advance();
            if (!isNumber(LEAST_NODES, MOST_NODES)) {
                return false;
            }
            draft.empty(value);
            advance();
            return passStop();
        }

        private boolean readEntry() {
            if (isWord("all")) {
                draft.network = draft.allLines();
                advance();
                return true;
            }
            if (isWord("line")) {
                return readLine(true);
            }
            if (isWord("less")) {
                return readLine(false);
            }
            if (isWord("shape")) {
                return readShape();
            }
            if (isWord("part")) {
                return readPart();
            }
            if (isWord("base")) {
                return readBase();
            }
            return refuse(1);
        }

        private boolean readLine(boolean more) {
            advance();
            if (!isNumber(0, draft.nodes - 1)) {
                return false;
            }
            int first = value;
            advance();
            if (!isNumber(0, draft.nodes - 1)) {
                return false;
            }
            if (value == first) {
                return refuse(2);
            }
            long bit = 1L << draft.lineNumber(first, value);
            draft.network = more ? draft.network | bit : draft.network & ~bit;
            advance();
            return true;
        }

        private boolean readShape() {
            if (shaped) {
                return refuse(1);
            }
            shaped = true;
            advance();
            if (isWord("triangle")) {
                advance();
                return true;
            }
            if (isWord("path")) {
                return readSize(PATH, 1, 4);
            }
            if (isWord("star")) {
                return readSize(STAR, 1, 4);
            }
            if (isWord("ring")) {
                return readSize(RING, 3, 5);
            }
            return refuse(1);
        }

        private boolean readSize(int shape, int low, int high) {
            advance();
            if (!isNumber(low, high)) {
                return false;
            }
            draft.shape = shape;
            draft.size = value;
            advance();
            return true;
        }

        private boolean readPart() {
            advance();
            int count = readNodes(partNodes, partCount * MOST_PLACES, draft.nodes - 1);
            if (count > 0 && partCount < MOST_PARTS) {
                partLengths[partCount] = count;
                partCount++;
            }
            return count > 0;
        }

        private boolean readBase() {
            if (baseCount >= MOST_BASES) {
                return refuse(3);
            }
            advance();
            int count = readNodes(draft.bases, baseCount * MOST_PLACES, MOST_BASE_NODE);
            if (count > 0) {
                baseLengths[baseCount] = count;
                baseCount++;
            }
            return count > 0;
        }

        /** One number to five into the row; how many, 0 behind a fault. A sixth one stands where ";" must. */
        private int readNodes(int[] row, int from, int most) {
            for (int count = 0; count < MOST_PLACES; count++) {
                if (count > 0 && kind != NUMBER) {
                    return count;
                }
                if (!isNumber(0, most)) {
                    return 0;
                }
                if (from + count < row.length) {
                    row[from + count] = value;
                }
                advance();
            }
            return MOST_PLACES;
        }

        /** Parts and bases are looked at last: shape and lines may be told behind them. */
        private boolean settle() {
            for (int base = 0; base < baseCount && base < MOST_BASES; base++) {
                if (!draft.tellsPart(draft.bases, base * MOST_PLACES, baseLengths[base], MOST_BASE_NODE)) {
                    return false;
                }
            }
            draft.baseCount = baseCount;
            long left = draft.network;
            for (int part = 0; part < partCount && part < MOST_PARTS; part++) {
                long lines = draft.linesOfPart(partNodes, part * MOST_PLACES, partLengths[part]);
                if (lines == 0L || (lines & ~left) != 0L) {
                    return false;
                }
                left &= ~lines;
                draft.putIn(lines);
            }
            return true;
        }

        private boolean passStop() {
            if (kind != STOP) {
                return refuse(1);
            }
            advance();
            return true;
        }

        private boolean isNumber(int low, int high) {
            if (kind != NUMBER) {
                return refuse(1);
            }
            if (value < low || value > high) {
                return refuse(2);
            }
            return true;
        }

        private boolean isWord(String word) {
            if (kind != WORD || end - start != word.length()) {
                return false;
            }
            for (int i = 0; i < word.length(); i++) {
                if (byteAt(start + i) != word.charAt(i)) {
                    return false;
                }
            }
            return true;
        }

        /** Always false, so that a refusal can be handed on. */
        private boolean refuse(int reason) {
            fault = reason;
            faultPlace = start;
            return false;
        }

        /** 0, which stands nowhere in a text, behind the end. */
        private int byteAt(int place) {
            return place >= 0 && place < length && place < bytes.length ? bytes[place] : 0;
        }

        private void advance() {
            start = end;
            while (start < length && byteAt(start) == ' ') {
                start++;
            }
            end = start;
            if (start >= length) {
                kind = END;
            } else if (isLetter(byteAt(start))) {
                kind = WORD;
                while (end < length && isLetter(byteAt(end))) {
                    end++;
                }
            } else if (isDigit(byteAt(start))) {
                kind = NUMBER;
                value = 0;
                while (end < length && isDigit(byteAt(end))) {
                    value = Math.min(HUGE, value * 10 + byteAt(end) - '0');
                    end++;
                }
            } else {
                kind = byteAt(start) == ';' ? STOP : OTHER;
                end++;
            }
        }

        private static boolean isLetter(int sign) {
            return sign >= 'a' && sign <= 'z';
        }

        private static boolean isDigit(int sign) {
            return sign >= '0' && sign <= '9';
        }
    }

    /** All parts of a network's lines, in order; kept till another network or shape is asked for. */
    private static final class Catalog {
        /** Paths of 4 lines on 11 nodes. */
        private static final int MOST_ROWS = 27720;

        int count = 0;
        long[] rows = new long[0];
        /** Where the rows begin whose least line is this one or a higher one. */
        final int[] starts = new int[MOST_LINES + 1];
        /** The part with the least line of the couple that couples() was asked for. */
        long found = 0L;
        int nodes = 0;
        int shape = 0;
        int size = 0;
        private long network = 0L;
        private int places = 0;
        private final int[] chosen = new int[MOST_PLACES];

        void fit(Net net) {
            if (net.nodes == nodes && net.shape == shape && net.size == size && net.network == network) {
                return;
            }
            nodes = net.nodes;
            shape = net.shape;
            size = net.size;
            network = net.network;
            places = net.places();
            count = 0;
            choose(net, 0, 0L);
            sort();
            markStarts();
        }

        /** Tries all nodes for the place at this depth, so that each part comes once. */
        private void choose(Net net, int depth, long lines) {
            if (depth >= places) {
                add(lines);
                return;
            }
            if (depth < 0 || depth >= chosen.length) {
                return;
            }
            for (int node = 0; node < nodes; node++) {
                if (mayStand(node, depth)) {
                    chosen[depth] = node;
                    long more = linesBack(net, depth);
                    if ((more & ~network) == 0L) {
                        choose(net, depth + 1, lines | more);
                    }
                }
            }
        }

        private boolean mayStand(int node, int depth) {
            for (int i = 0; i < depth && i < chosen.length; i++) {
                if (chosen[i] == node) {
                    return false;
                }
            }
            if (depth == 0) {
                return true;
            }
            boolean last = depth + 1 == places;
            switch (shape) {
                case PATH:
                    return !last || node > chosen[0];
                case STAR:
                    return depth == 1 ? size > 1 || node > chosen[0] : node > chosen[depth - 1];
                default:
                    return node > chosen[0] && (!last || node > chosen[1]);
            }
        }

        /** The lines from the node at this depth to nodes ahead of it. */
        private long linesBack(Net net, int depth) {
            if (depth < 1 || depth >= chosen.length) {
                return 0L;
            }
            int ahead = shape == STAR ? 0 : depth - 1;
            long lines = 1L << net.lineNumber(chosen[ahead], chosen[depth]);
            if (net.isClosed() && depth + 1 == places) {
                lines |= 1L << net.lineNumber(chosen[0], chosen[depth]);
            }
            return lines;
        }

        private void add(long lines) {
            if (count == rows.length) {
                rows = Arrays.copyOf(rows, Math.min(MOST_ROWS, Math.max(32, 2 * count)));
            }
            if (count >= 0 && count < rows.length) {
                rows[count] = lines;
                count++;
            }
        }

        /** Alike many lines in both: the one with the least line that is not in both comes first. */
        private static boolean comesFirst(long one, long other) {
            long unlike = one ^ other;
            return (one & unlike & -unlike) != 0L;
        }

        private void sort() {
            for (int root = count / 2 - 1; root >= 0; root--) {
                sink(root, count);
            }
            for (int last = count - 1; last > 0; last--) {
                if (last < rows.length) {
                    long top = rows[0];
                    rows[0] = rows[last];
                    rows[last] = top;
                    sink(0, last);
                }
            }
        }

        private void sink(int root, int bound) {
            if (root < 0 || root >= bound || bound > rows.length) {
                return;
            }
            long row = rows[root];
            int hole = root;
            int child = 2 * root + 1;
            while (child < bound) {
                if (child + 1 < bound && comesFirst(rows[child], rows[child + 1])) {
                    child++;
                }
                if (!comesFirst(row, rows[child])) {
                    break;
                }
                rows[hole] = rows[child];
                hole = child;
                child = 2 * child + 1;
            }
            rows[hole] = row;
        }

        private void markStarts() {
            int at = 0;
            for (int line = 0; line < starts.length; line++) {
                while (at < count && at < rows.length && leastLine(rows[at]) < line) {
                    at++;
                }
                starts[line] = at;
            }
        }

        int countWithin(long lines) {
            int within = 0;
            for (int i = 0; i < count && i < rows.length; i++) {
                if ((rows[i] & ~lines) == 0L) {
                    within++;
                }
            }
            return within;
        }

        /** The k-th part of these lines; 0 if there are not so many. */
        long within(long lines, int k) {
            int ahead = 0;
            for (int i = 0; i < count && i < rows.length; i++) {
                if ((rows[i] & ~lines) == 0L) {
                    if (ahead == k) {
                        return rows[i];
                    }
                    ahead++;
                }
            }
            return 0L;
        }

        private boolean has(long lines) {
            int least = leastLine(lines);
            if (least < 0 || least + 1 >= starts.length) {
                return false;
            }
            for (int i = starts[least]; i < starts[least + 1] && i < rows.length; i++) {
                if (rows[i] == lines) {
                    return true;
                }
            }
            return false;
        }

        /** How many couples other than these two have their lines; the k-th one's first part is found. */
        int couples(long one, long other, int k) {
            long lines = one | other;
            int least = leastLine(lines);
            int couples = 0;
            found = 0L;
            if (least < 0 || least + 1 >= starts.length) {
                return 0;
            }
            for (int i = starts[least]; i < starts[least + 1] && i < rows.length; i++) {
                long row = rows[i];
                if ((row & ~lines) == 0L && row != one && row != other && has(lines & ~row)) {
                    if (couples == k) {
                        found = row;
                    }
                    couples++;
                }
            }
            return couples;
        }
    }

    /** The search for ways to put in parts till no line is left. */
    private static final class Walk {
        /** Each step is made once and taken back once. */
        private static final int MOST_TURNS = 3 * MOST_STEPS;

        int ways = 0;
        int steps = 0;
        boolean cut = false;
        int wayLength = 0;
        final long[] way = new long[MOST_LINES];
        private final int[] taken = new int[MOST_LINES];
        private boolean whole = false;
        private long left = 0L;
        private int nodes = 0;
        private int shape = 0;
        private int size = 0;

        /** The catalog holds all parts of these lines. An earlier whole walk for the same lines is kept. */
        void go(Catalog catalog, long lines, boolean onlyFirst) {
            boolean same = lines == left && catalog.nodes == nodes && catalog.shape == shape && catalog.size == size;
            if (whole && same) {
                return;
            }
            nodes = catalog.nodes;
            shape = catalog.shape;
            size = catalog.size;
            left = lines;
            whole = !onlyFirst;
            ways = 0;
            steps = 0;
            cut = false;
            wayLength = 0;
            if (lines == 0L) {
                ways = 1;
            } else {
                step(catalog, onlyFirst);
            }
        }

        private void step(Catalog catalog, boolean onlyFirst) {
            long rest = left;
            int depth = 0;
            int from = firstRow(catalog, rest);
            for (int turn = 0; turn < MOST_TURNS; turn++) {
                int row = nextRow(catalog, rest, from);
                if (row != NONE && steps == MOST_STEPS) {
                    cut = true;
                    return;
                }
                if (row != NONE && depth < taken.length) {
                    steps++;
                    taken[depth] = row;
                    depth++;
                    rest &= ~catalog.rows[row];
                    from = firstRow(catalog, rest);
                    if (rest == 0L) {
                        arrive(catalog, depth);
                    }
                    if (onlyFirst && ways > 0) {
                        return;
                    }
                } else if (depth > 0 && depth <= taken.length) {
                    depth--;
                    int back = taken[depth];
                    if (back >= 0 && back < catalog.rows.length) {
                        rest |= catalog.rows[back];
                    }
                    from = back + 1;
                } else {
                    return;
                }
            }
        }

        private void arrive(Catalog catalog, int depth) {
            if (ways == 0) {
                wayLength = depth;
                for (int i = 0; i < depth && i < taken.length; i++) {
                    int row = taken[i];
                    if (row >= 0 && row < catalog.rows.length) {
                        way[i] = catalog.rows[row];
                    }
                }
            }
            ways++;
        }

        private static int firstRow(Catalog catalog, long rest) {
            int least = leastLine(rest);
            return least >= 0 && least < catalog.starts.length ? catalog.starts[least] : catalog.count;
        }

        /** The next row, from this one on, of lines that are left, with the least of them. */
        private static int nextRow(Catalog catalog, long rest, int from) {
            int least = leastLine(rest);
            if (least < 0 || least + 1 >= catalog.starts.length || from < 0) {
                return NONE;
            }
            int bound = Math.min(catalog.starts[least + 1], catalog.rows.length);
            for (int i = from; i < bound; i++) {
                if ((catalog.rows[i] & ~rest) == 0L) {
                    return i;
                }
            }
            return NONE;
        }
    }

    /** Shares the parts out in as few classes as can be. */
    private static final class Sharing {
        private final int[] partNodes = new int[MOST_CLASSED];
        private final int[] classNodes = new int[MOST_CLASSED];
        private int parts = 0;

        int fewest(Net net) {
            parts = Math.min(net.partCount, MOST_CLASSED);
            int crowd = 0;
            for (int i = 0; i < parts; i++) {
                partNodes[i] = 0;
            }
            for (int node = 0; node < net.nodes; node++) {
                long lines = net.linesAt(node);
                crowd = Math.max(crowd, net.partsMeeting(lines));
                for (int i = 0; i < parts; i++) {
                    if ((net.parts[i] & lines) != 0L) {
                        partNodes[i] |= 1 << node;
                    }
                }
            }
            // Parts that meet at one node are in as many classes.
            for (int limit = crowd; limit < parts; limit++) {
                Arrays.fill(classNodes, 0);
                if (place(0, 0, limit)) {
                    return limit;
                }
            }
            return parts;
        }

        /** A part goes to a class that is used, or to the next one alone: empty classes are alike. */
        private boolean place(int part, int used, int limit) {
            if (part >= parts || part >= partNodes.length) {
                return true;
            }
            for (int i = 0; i <= used && i < limit && i < classNodes.length; i++) {
                if ((classNodes[i] & partNodes[part]) == 0) {
                    classNodes[i] |= partNodes[part];
                    if (place(part + 1, Math.max(used, i + 1), limit)) {
                        return true;
                    }
                    classNodes[i] &= ~partNodes[part];
                }
            }
            return false;
        }
    }
}
