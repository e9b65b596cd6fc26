import java.util.ArrayList;
import java.util.Arrays;
import java.util.Collections;
import java.util.Comparator;
import java.util.HashMap;
import java.util.HashSet;
import java.util.List;
import java.util.Map;
import java.util.NoSuchElementException;
import java.util.Set;
import java.util.TreeSet;
import java.util.regex.Matcher;
import java.util.regex.Pattern;

/** The document written a second time, as plainly as the Java library lets it, to hold the class against. */
final class Model {
    private static final int NONE = -1;
    /** All parts on so many nodes, in order, by nodes, shape and size. */
    private static final Map<List<Integer>, List<Long>> KNOWN = new HashMap<>();
    private static final Pattern TOKEN = Pattern.compile(" *([a-z]+|[0-9]+|;|[^ ]|$)");

    private record State(int nodes, Set<Integer> network, int shape, int size, List<Long> parts, List<List<Integer>> bases) {
        State copy() {
            return new State(nodes, new TreeSet<>(network), shape, size, new ArrayList<>(parts), new ArrayList<>(bases));
        }
    }

    private static final class Fault extends Exception {
        private static final long serialVersionUID = 1L;
        final int number;
        final int place;

        Fault(int number, int place) {
            this.number = number;
            this.place = place;
        }
    }

    private State now = new State(3, new TreeSet<>(List.of(0, 1, 2)), 0, 3, new ArrayList<>(), new ArrayList<>());
    private final List<State> acts = new ArrayList<>();
    private String tape = "";
    private int faultPlace = NONE;
    private final int[] refused = new int[3];

    private RuntimeException missing() {
        refused[0]++;
        return new NoSuchElementException();
    }

    private RuntimeException unfit() {
        refused[1]++;
        return new IllegalArgumentException();
    }

    private RuntimeException untimely() {
        refused[2]++;
        return new IllegalStateException();
    }

    private void act() {
        acts.add(now.copy());
        if (acts.size() > 8) {
            acts.remove(0);
        }
    }

    private static List<int[]> pairs(int nodes) {
        List<int[]> pairs = new ArrayList<>();
        for (int a = 0; a < nodes; a++) {
            for (int b = a + 1; b < nodes; b++) {
                pairs.add(new int[] {a, b});
            }
        }
        return pairs;
    }

    private static int number(int nodes, int a, int b) {
        int number = 0;
        for (int[] pair : pairs(nodes)) {
            if (pair[0] == Math.min(a, b) && pair[1] == Math.max(a, b)) {
                return number;
            }
            number++;
        }
        throw new AssertionError("no line " + a + " " + b);
    }

    /** The pairs of numbers that a part has as lines, or null if the numbers tell none of the shape. */
    private static List<int[]> pairsOf(int shape, int size, List<Integer> row) {
        boolean ring = shape == 0 || shape == 3;
        if (row.size() != (ring ? size : size + 1) || new HashSet<>(row).size() != row.size()) {
            return null;
        }
        List<int[]> pairs = new ArrayList<>();
        for (int i = 1; i < row.size(); i++) {
            pairs.add(new int[] {row.get(shape == 2 ? 0 : i - 1), row.get(i)});
        }
        if (ring) {
            pairs.add(new int[] {row.get(row.size() - 1), row.get(0)});
        }
        return pairs;
    }

    private static long lines(int nodes, int shape, int size, List<Integer> row) {
        List<int[]> pairs = pairsOf(shape, size, row);
        if (pairs == null || row.stream().anyMatch(x -> x < 0 || x >= nodes)) {
            return 0;
        }
        long lines = 0;
        for (int[] pair : pairs) {
            lines |= 1L << number(nodes, pair[0], pair[1]);
        }
        return lines;
    }

    private static String inOrder(long lines) {
        StringBuilder text = new StringBuilder();
        for (int line = 0; line < 55; line++) {
            if ((lines >> line & 1) == 1) {
                text.append((char) ('A' + line));
            }
        }
        return text.toString();
    }

    private static List<Long> allParts(int nodes, int shape, int size) {
        return KNOWN.computeIfAbsent(List.of(nodes, shape, size), key -> {
            Set<Long> all = new HashSet<>();
            rows(nodes, shape, size, new ArrayList<>(), all);
            List<Long> sorted = new ArrayList<>(all);
            sorted.sort(Comparator.comparing(Model::inOrder));
            return sorted;
        });
    }

    private static void rows(int nodes, int shape, int size, List<Integer> row, Set<Long> all) {
        long lines = lines(nodes, shape, size, row);
        if (lines != 0) {
            all.add(lines);
            return;
        }
        for (int node = 0; node < nodes && row.size() < 5; node++) {
            if (!row.contains(node)) {
                row.add(node);
                rows(nodes, shape, size, row, all);
                row.remove(row.size() - 1);
            }
        }
    }

    private static long bits(Set<Integer> lines) {
        long bits = 0;
        for (int line : lines) {
            bits |= 1L << line;
        }
        return bits;
    }

    private List<Long> partsOf(long lines) {
        List<Long> some = new ArrayList<>();
        for (long part : allParts(now.nodes, now.shape, now.size)) {
            if ((part & lines) == part) {
                some.add(part);
            }
        }
        return some;
    }

    int feed(int... numbers) {
        if (tape.length() > 280) {
            return NONE;
        }
        for (int number : numbers) {
            for (byte b : java.nio.ByteBuffer.allocate(4).putInt(number).array()) {
                tape += (char) (b & 255);
            }
        }
        return tape.length();
    }

    int text(int n) {
        if (n < 0 || n > tape.length()) {
            throw unfit();
        }
        String text = tape.substring(0, n);
        tape = "";
        try {
            State told = read(text);
            act();
            now = told;
            faultPlace = NONE;
            return Long.bitCount(left());
        } catch (Fault fault) {
            faultPlace = fault.place;
            return fault.number - 10;
        }
    }

    /** A text's tokens with their places; the last one is empty, at the length. */
    private static final class Tokens {
        final List<String> words = new ArrayList<>();
        final List<Integer> places = new ArrayList<>();
        int at = 0;

        Tokens(String text) {
            Matcher matcher = TOKEN.matcher(text);
            int from = 0;
            while (words.isEmpty() || !words.get(words.size() - 1).isEmpty()) {
                if (!matcher.find(from)) {
                    throw new AssertionError(text);
                }
                words.add(matcher.group(1));
                places.add(matcher.start(1));
                from = matcher.end();
            }
        }

        String peek() {
            return words.get(at);
        }

        boolean isNumber() {
            return peek().matches("[0-9]+");
        }

        Fault fault(int number) {
            return new Fault(number, places.get(at));
        }

        void pass(String word) throws Fault {
            if (!peek().equals(word)) {
                throw fault(1);
            }
            at++;
        }

        int number(int low, int high, int not) throws Fault {
            if (!isNumber()) {
                throw fault(1);
            }
            java.math.BigInteger value = new java.math.BigInteger(peek());
            if (value.bitLength() > 20 || value.intValue() < low || value.intValue() > high || value.intValue() == not) {
                throw fault(2);
            }
            at++;
            return value.intValue();
        }

        List<Integer> row(int high) throws Fault {
            List<Integer> row = new ArrayList<>();
            do {
                if (row.size() == 5) {
                    throw fault(1);
                }
                row.add(number(0, high, NONE));
            } while (isNumber());
            return row;
        }
    }

    private static State read(String text) throws Fault {
        Tokens tokens = new Tokens(text);
        tokens.pass("nodes");
        int nodes = tokens.number(2, 11, NONE);
        tokens.pass(";");
        Set<Integer> network = new TreeSet<>();
        int shape = NONE;
        int size = 3;
        List<List<Integer>> parts = new ArrayList<>();
        List<List<Integer>> bases = new ArrayList<>();
        while (!tokens.peek().isEmpty()) {
            String word = tokens.peek();
            if (word.equals("base") && bases.size() == 4) {
                throw tokens.fault(3);
            }
            if (word.equals("shape") && shape != NONE || !Set.of("all", "line", "less", "shape", "part", "base").contains(word)) {
                throw tokens.fault(1);
            }
            tokens.at++;
            switch (word) {
                case "all" -> {
                    for (int i = 0; i < pairs(nodes).size(); i++) {
                        network.add(i);
                    }
                }
                case "line", "less" -> {
                    int a = tokens.number(0, nodes - 1, NONE);
                    int line = number(nodes, a, tokens.number(0, nodes - 1, a));
                    if (word.equals("line")) {
                        network.add(line);
                    } else {
                        network.remove(line);
                    }
                }
                case "shape" -> {
                    shape = List.of("triangle", "path", "star", "ring").indexOf(tokens.peek());
                    if (shape == NONE) {
                        throw tokens.fault(1);
                    }
                    tokens.at++;
                    if (shape > 0) {
                        size = tokens.number(shape == 3 ? 3 : 1, shape == 3 ? 5 : 4, NONE);
                    }
                }
                case "part" -> parts.add(tokens.row(nodes - 1));
                default -> bases.add(tokens.row(30));
            }
            tokens.pass(";");
        }
        State state = new State(nodes, network, Math.max(shape, 0), size, new ArrayList<>(), bases);
        long left = bits(network);
        for (List<Integer> base : bases) {
            if (pairsOf(state.shape, size, base) == null) {
                throw new Fault(4, text.length());
            }
        }
        for (List<Integer> part : parts) {
            long lines = lines(nodes, state.shape, size, part);
            if (lines == 0 || (lines & left) != lines) {
                throw new Fault(4, text.length());
            }
            left -= lines;
            state.parts.add(lines);
        }
        return state;
    }

    int fault() {
        return faultPlace;
    }

    int put(Integer... row) {
        List<Integer> nodes = new ArrayList<>(Arrays.asList(row));
        while (!nodes.isEmpty() && nodes.get(nodes.size() - 1) == NONE) {
            nodes.remove(nodes.size() - 1);
        }
        long lines = lines(now.nodes, now.shape, now.size, nodes);
        if (lines == 0) {
            throw unfit();
        }
        if ((lines & left()) != lines) {
            throw untimely();
        }
        act();
        now.parts.add(lines);
        return now.parts.size();
    }

    private void needPart(int part) {
        if (part < 0 || part >= now.parts.size()) {
            throw missing();
        }
    }

    int take(int part) {
        needPart(part);
        act();
        now.parts.remove(part);
        return now.parts.size();
    }

    private List<long[]> couples(int one, int other) {
        needPart(one);
        needPart(other);
        if (one == other) {
            throw unfit();
        }
        long both = now.parts.get(one) | now.parts.get(other);
        List<long[]> couples = new ArrayList<>();
        List<Long> some = partsOf(both);
        for (long first : some) {
            for (long second : some) {
                boolean least = (first & Long.lowestOneBit(both)) != 0;
                if (least && first + second == both && (first & second) == 0
                        && !now.parts.get(one).equals(first) && !now.parts.get(other).equals(first)) {
                    couples.add(new long[] {first, second});
                }
            }
        }
        return couples;
    }

    int exchange(int one, int other, int k) {
        List<long[]> couples = couples(one, other);
        if (k < 0 || k >= couples.size()) {
            throw missing();
        }
        act();
        now.parts.set(one, couples.get(k)[0]);
        now.parts.set(other, couples.get(k)[1]);
        return couples(one, other).size();
    }

    private static final class Search {
        /** In order, by their least line. */
        final Map<Long, List<Long>> pool = new HashMap<>();
        final List<Long> path = new ArrayList<>();
        List<Long> first = null;
        int ways = 0;
        int steps = 0;
        boolean cut = false;

        Search(List<Long> parts) {
            for (long part : parts) {
                pool.computeIfAbsent(Long.lowestOneBit(part), least -> new ArrayList<>()).add(part);
            }
        }

        void go(long left) {
            if (left == 0) {
                ways++;
                if (first == null) {
                    first = new ArrayList<>(path);
                }
                return;
            }
            for (long part : pool.getOrDefault(Long.lowestOneBit(left), List.of())) {
                if (cut) {
                    return;
                }
                if ((part & left) == part) {
                    if (steps == 20000) {
                        cut = true;
                        return;
                    }
                    steps++;
                    path.add(part);
                    go(left & ~part);
                    path.remove(path.size() - 1);
                }
            }
        }
    }

    private Search searched() {
        Search search = new Search(partsOf(left()));
        search.go(left());
        return search;
    }

    int finish() {
        Search search = searched();
        if (search.first == null) {
            return NONE;
        }
        act();
        now.parts.addAll(search.first);
        return search.first.size();
    }

    private List<Integer> differences(int n) {
        List<Integer> all = new ArrayList<>();
        for (List<Integer> base : now.bases) {
            for (int[] pair : pairsOf(now.shape, now.size, base)) {
                int ahead = ((pair[0] - pair[1]) % n + n) % n;
                int back = ((pair[1] - pair[0]) % n + n) % n;
                all.add(Math.min(ahead, back));
            }
        }
        return all;
    }

    int develop() {
        int n = now.nodes;
        boolean again = false;
        for (List<Integer> base : now.bases) {
            again |= base.stream().map(x -> x % n).distinct().count() != base.size();
        }
        if (n < 3 || now.bases.isEmpty() || again || bad(n) != NONE) {
            throw untimely();
        }
        act();
        now.parts.clear();
        now.network.clear();
        for (int[] pair : pairs(n)) {
            int ahead = pair[1] - pair[0];
            if (Collections.frequency(differences(n), Math.min(ahead, n - ahead)) == 1) {
                now.network.add(number(n, pair[0], pair[1]));
            }
        }
        for (List<Integer> base : now.bases) {
            for (int shift = 0; shift < n; shift++) {
                int by = shift;
                now.parts.add(lines(n, now.shape, now.size, base.stream().map(x -> (x + by) % n).toList()));
            }
        }
        return now.parts.size();
    }

    int undo() {
        if (acts.isEmpty()) {
            return NONE;
        }
        now = acts.remove(acts.size() - 1);
        return acts.size();
    }

    int told(int what) {
        int[] told = {now.nodes, now.network.size(), now.shape, now.size, now.parts.size(), Long.bitCount(left()),
            now.bases.size(), tape.length(), acts.size()};
        if (what < 0 || what >= told.length) {
            throw unfit();
        }
        return told[what];
    }

    private void needNode(int node) {
        if (node < 0 || node >= now.nodes) {
            throw missing();
        }
    }

    int line(int a, int b, int what) {
        needNode(a);
        needNode(b);
        if (a == b || what < 0 || what > 2) {
            throw unfit();
        }
        int line = number(now.nodes, a, b);
        if (what == 2) {
            for (int part = 0; part < now.parts.size(); part++) {
                if ((now.parts.get(part) >> line & 1) == 1) {
                    return part;
                }
            }
            return NONE;
        }
        return what == 0 ? line : now.network.contains(line) ? 1 : 0;
    }

    private boolean touches(int node, long lines) {
        int line = 0;
        for (int[] pair : pairs(now.nodes)) {
            if ((lines >> line & 1) == 1 && (pair[0] == node || pair[1] == node)) {
                return true;
            }
            line++;
        }
        return false;
    }

    private int degree(int node, long lines) {
        int count = 0;
        for (int line = 0; line < 55; line++) {
            if (touches(node, lines & 1L << line)) {
                count++;
            }
        }
        return count;
    }

    int node(int node, int what) {
        needNode(node);
        if (what < 0 || what > 2) {
            throw unfit();
        }
        if (what == 2) {
            return (int) now.parts.stream().filter(part -> touches(node, part)).count();
        }
        return degree(node, what == 0 ? bits(now.network) : left());
    }

    int part(int part, int i) {
        needPart(part);
        String lines = inOrder(now.parts.get(part));
        return i < 0 || i >= lines.length() ? NONE : lines.charAt(i) - 'A';
    }

    long left() {
        long left = bits(now.network);
        for (long part : now.parts) {
            left -= part;
        }
        return left;
    }

    int parts(int what) {
        if (what != 0 && what != 1) {
            throw unfit();
        }
        return partsOf(what == 0 ? bits(now.network) : left()).size();
    }

    long partAt(int k) {
        List<Long> some = partsOf(left());
        if (k < 0 || k >= some.size()) {
            throw missing();
        }
        return some.get(k);
    }

    int tests() {
        int bits = Long.bitCount(left()) % now.size == 0 ? 0 : 1;
        for (int node = 0; node < now.nodes; node++) {
            if ((now.shape == 0 || now.shape == 3) && degree(node, left()) % 2 == 1) {
                bits |= 2;
            }
        }
        return bits;
    }

    int search(int what) {
        if (what < 0 || what > 2) {
            throw unfit();
        }
        Search search = searched();
        return what == 0 ? search.ways : what == 1 ? search.steps : search.cut ? 0 : 1;
    }

    int exchanges(int one, int other) {
        return couples(one, other).size();
    }

    int classes() {
        int count = now.parts.size();
        if (count > 14) {
            throw untimely();
        }
        int[] has = new int[count];
        for (int i = 0; i < count; i++) {
            for (int node = 0; node < now.nodes; node++) {
                has[i] |= touches(node, now.parts.get(i)) ? 1 << node : 0;
            }
        }
        boolean[] apart = new boolean[1 << count];
        for (int set = 0; set < 1 << count; set++) {
            int nodes = 0;
            int places = 0;
            for (int i = 0; i < count; i++) {
                nodes |= (set >> i & 1) == 1 ? has[i] : 0;
                places += (set >> i & 1) == 1 ? Integer.bitCount(has[i]) : 0;
            }
            apart[set] = Integer.bitCount(nodes) == places;
        }
        int[] fewest = new int[1 << count];
        for (int set = 1; set < 1 << count; set++) {
            fewest[set] = 99;
            for (int some = set; some > 0; some = some - 1 & set) {
                if (apart[some]) {
                    fewest[set] = Math.min(fewest[set], 1 + fewest[set & ~some]);
                }
            }
        }
        return fewest[(1 << count) - 1];
    }

    int cover(int n, int d) {
        if (n < 3 || n > 31 || d < 1 || d > n / 2) {
            throw unfit();
        }
        return Collections.frequency(differences(n), d);
    }

    private int bad(int n) {
        List<Integer> differences = differences(n);
        for (int d = 0; d <= n / 2; d++) {
            if (Collections.frequency(differences, d) != (d > 0 && 2 * d < n ? 1 : 0)) {
                return d;
            }
        }
        return NONE;
    }

    int good(int n) {
        if (n < 3 || n > 31) {
            throw unfit();
        }
        return bad(n);
    }

    int base(int base, int i) {
        if (base < 0 || base >= now.bases.size()) {
            throw missing();
        }
        List<Integer> row = now.bases.get(base);
        return i < 0 || i >= row.size() ? NONE : row.get(i);
    }

    long print() {
        long print = left();
        for (long part : now.parts) {
            print = 31 * print + part;
        }
        return print;
    }

    int status(int what) {
        return what >= 0 && what < 3 ? refused[what] : NONE;
    }
}
