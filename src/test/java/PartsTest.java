/** Promises 5, 6, 11 to 15 and 25: parts put in and taken out, lines, nodes, what is left, the print. */
public final class PartsTest {
    private static final Due DUE = new Due();

    public static void main(String[] args) {
        shapes();
        refusedPuts();
        takes();
        lines();
        nodes();
        partLines();
        prints();
        DUE.end();
    }

    private static long bits(PartedNet net, int... pairs) {
        long bits = 0;
        for (int i = 0; i < pairs.length; i += 2) {
            bits |= 1L << net.line(pairs[i], pairs[i + 1], 0);
        }
        return bits;
    }

    private static void puts(String shape, int[] row, int... pairs) {
        PartedNet net = Due.told("nodes 6;all;shape " + shape + ";");
        DUE.same(shape + " put", net.put(row[0], row[1], row[2], row[3], row[4]), 1);
        DUE.same(shape + " left", net.left(), 32767L & ~bits(net, pairs));
        DUE.untimely(shape + " again", () -> net.put(row[0], row[1], row[2], row[3], row[4]));
    }

    private static void shapes() {
        puts("triangle", new int[] {5, 0, 3, -1, -1}, 0, 3, 0, 5, 3, 5);
        puts("path 1", new int[] {5, 0, -1, -1, -1}, 0, 5);
        puts("path 3", new int[] {5, 0, 3, 2, -1}, 5, 0, 0, 3, 3, 2);
        puts("path 4", new int[] {5, 0, 3, 2, 4}, 5, 0, 0, 3, 3, 2, 2, 4);
        puts("star 1", new int[] {5, 0, -1, -1, -1}, 0, 5);
        puts("star 3", new int[] {5, 0, 3, 2, -1}, 5, 0, 5, 3, 5, 2);
        puts("star 4", new int[] {5, 0, 3, 2, 4}, 5, 0, 5, 3, 5, 2, 5, 4);
        puts("ring 3", new int[] {5, 0, 3, -1, -1}, 0, 3, 0, 5, 3, 5);
        puts("ring 4", new int[] {5, 0, 3, 2, -1}, 5, 0, 0, 3, 3, 2, 2, 5);
        puts("ring 5", new int[] {5, 0, 3, 2, 4}, 5, 0, 0, 3, 3, 2, 2, 4, 4, 5);
    }

    private static void refusedPuts() {
        PartedNet net = Due.told("nodes 5;all;less 3 4;part 0 1 2;");
        String ahead = Due.view(net);
        DUE.unfit("too few", () -> net.put(0, 1, -1, -1, -1));
        DUE.unfit("too many", () -> net.put(0, 1, 2, 3, -1));
        DUE.unfit("none", () -> net.put(-1, -1, -1, -1, -1));
        DUE.unfit("NONE ahead", () -> net.put(-1, 0, 1, 2, -1));
        DUE.unfit("NONE between", () -> net.put(0, 1, -1, 2, -1));
        DUE.unfit("behind the last", () -> net.put(0, 1, 3, -1, 4));
        DUE.unfit("a node again", () -> net.put(0, 3, 0, -1, -1));
        DUE.unfit("no node", () -> net.put(0, 3, 5, -1, -1));
        DUE.unfit("below NONE", () -> net.put(0, 3, -2, -1, -1));
        DUE.unfit("MIN", () -> net.put(0, 3, Integer.MIN_VALUE, -1, -1));
        DUE.unfit("MAX", () -> net.put(0, 3, Integer.MAX_VALUE, -1, -1));
        DUE.untimely("a line in a part", () -> net.put(0, 1, 3, -1, -1));
        DUE.untimely("a line that the network has not", () -> net.put(0, 3, 4, -1, -1));
        DUE.holds("refusals change nothing", ahead.equals(Due.view(net)));
        DUE.same("status(1)", net.status(1), 11);
        DUE.same("status(2)", net.status(2), 2);
    }

    private static void takes() {
        PartedNet net = Due.told("nodes 5;all;shape path 1;part 0 1;part 2 3;part 0 4;");
        String ahead = Due.view(net);
        DUE.missing("take(3)", () -> net.take(3));
        DUE.missing("take(-1)", () -> net.take(-1));
        DUE.missing("take(MAX)", () -> net.take(Integer.MAX_VALUE));
        DUE.holds("refusals change nothing", ahead.equals(Due.view(net)));
        DUE.same("take(1)", net.take(1), 2);
        DUE.same("part(0, 0)", net.part(0, 0), 0);
        DUE.same("part(1, 0)", net.part(1, 0), 3);
        DUE.same("line(2, 3, 2)", net.line(2, 3, 2), -1);
        DUE.same("line(4, 0, 2)", net.line(4, 0, 2), 1);
        DUE.same("take(1)", net.take(1), 1);
        DUE.same("take(0)", net.take(0), 0);
        DUE.missing("take(0)", () -> net.take(0));
        PartedNet all = Due.told("nodes 11;all;shape path 1;");
        int count = 0;
        for (int a = 0; a < 11; a++) {
            for (int b = a + 1; b < 11; b++) {
                count++;
                DUE.same("put of all", all.put(b, a, -1, -1, -1), count);
            }
        }
        DUE.same("all are in", all.left(), 0);
        DUE.same("the last one", all.line(9, 10, 2), 54);
        DUE.same("take the first", all.take(0), 54);
        DUE.same("the last one then", all.line(9, 10, 2), 53);
    }

    private static void lines() {
        for (int nodes = 2; nodes <= 11; nodes++) {
            PartedNet net = Due.told("nodes " + nodes + ";line 0 1;");
            int number = 0;
            for (int a = 0; a < nodes; a++) {
                for (int b = a + 1; b < nodes; b++) {
                    DUE.same("line number", net.line(a, b, 0), number);
                    DUE.same("line number turned", net.line(b, a, 0), number);
                    DUE.same("line in the network", net.line(b, a, 1), number == 0 ? 1 : 0);
                    DUE.same("line in a part", net.line(b, a, 2), -1);
                    number++;
                }
            }
            int out = nodes;
            DUE.missing("line(0, nodes, 0)", () -> net.line(0, out, 0));
            DUE.missing("line(nodes, nodes, 7)", () -> net.line(out, out, 7));
        }
        PartedNet net = new PartedNet();
        DUE.missing("line(-1, 0, 0)", () -> net.line(-1, 0, 0));
        DUE.missing("line(0, MIN, 9)", () -> net.line(0, Integer.MIN_VALUE, 9));
        DUE.unfit("line(1, 1, 0)", () -> net.line(1, 1, 0));
        DUE.unfit("line(1, 2, -1)", () -> net.line(1, 2, -1));
        DUE.unfit("line(1, 2, 3)", () -> net.line(1, 2, 3));
        DUE.same("status(0)", net.status(0), 2);
        DUE.same("status(1)", net.status(1), 3);
    }

    private static void nodes() {
        PartedNet net = Due.told("nodes 5;all;less 3 4;shape path 2;part 0 1 2;part 0 2 3;");
        int[] lines = {4, 4, 4, 3, 3};
        int[] left = {2, 2, 1, 2, 3};
        int[] parts = {2, 1, 2, 1, 0};
        for (int node = 0; node < 5; node++) {
            DUE.same("node(.., 0)", net.node(node, 0), lines[node]);
            DUE.same("node(.., 1)", net.node(node, 1), left[node]);
            DUE.same("node(.., 2)", net.node(node, 2), parts[node]);
        }
        DUE.missing("node(5, 0)", () -> net.node(5, 0));
        DUE.missing("node(-1, 9)", () -> net.node(-1, 9));
        DUE.unfit("node(0, 3)", () -> net.node(0, 3));
        DUE.unfit("node(0, -1)", () -> net.node(0, -1));
    }

    private static void partLines() {
        PartedNet net = Due.told("nodes 5;all;shape ring 5;part 0 3 1 4 2;");
        int[] due = {1, 2, 5, 6, 8};
        for (int i = 0; i < 5; i++) {
            DUE.same("part(0, " + i + ")", net.part(0, i), due[i]);
        }
        DUE.same("part(0, 5)", net.part(0, 5), -1);
        DUE.same("part(0, -1)", net.part(0, -1), -1);
        DUE.same("part(0, MAX)", net.part(0, Integer.MAX_VALUE), -1);
        DUE.same("part(0, MIN)", net.part(0, Integer.MIN_VALUE), -1);
        DUE.missing("part(1, 0)", () -> net.part(1, 0));
        DUE.missing("part(-1, 0)", () -> net.part(-1, 0));
        DUE.missing("part(MIN, MIN)", () -> net.part(Integer.MIN_VALUE, Integer.MIN_VALUE));
    }

    private static void prints() {
        PartedNet net = Due.told("nodes 5;all;shape path 2;part 2 1 0;part 3 0 4;");
        long left = 1023L & ~0b10001L & ~0b1100L;
        DUE.same("left()", net.left(), left);
        DUE.same("print()", net.print(), (left * 31 + 0b10001L) * 31 + 0b1100L);
        PartedNet big = Due.told("nodes 11;all;shape star 1;");
        long print = 0;
        for (int a = 0; a < 8; a++) {
            for (int b = a + 1; b < 11; b++) {
                big.put(a, b, -1, -1, -1);
            }
        }
        print = print * 31 + (7L << 52);
        for (int i = 0; i < 52; i++) {
            print = print * 31 + (1L << i);
        }
        DUE.same("print() that wraps", big.print(), print);
        DUE.same("left() of the highest", big.left(), 7L << 52);
    }
}
