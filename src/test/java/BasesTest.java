/** Promises 9 and 22 to 24: bases, their differences, and what comes of them. */
public final class BasesTest {
    private static final Due DUE = new Due();

    public static void main(String[] args) {
        bases();
        covers();
        goods();
        developed();
        notDeveloped();
        DUE.end();
    }

    private static void bases() {
        PartedNet net = Due.told("nodes 3;base 30 0 17;base 1 2 3;");
        DUE.same("base(0, 0)", net.base(0, 0), 30);
        DUE.same("base(0, 2)", net.base(0, 2), 17);
        DUE.same("base(1, 1)", net.base(1, 1), 2);
        DUE.same("base(1, 3)", net.base(1, 3), -1);
        DUE.same("base(0, 3)", net.base(0, 3), -1);
        DUE.same("base(0, -1)", net.base(0, -1), -1);
        DUE.same("base(0, MAX)", net.base(0, Integer.MAX_VALUE), -1);
        DUE.missing("base(2, 0)", () -> net.base(2, 0));
        DUE.missing("base(-1, 0)", () -> net.base(-1, 0));
        DUE.missing("base(MAX, 0)", () -> net.base(Integer.MAX_VALUE, 0));
        DUE.same("a star's fifth node", Due.told("nodes 3;shape star 4;base 4 3 2 1 0;").base(0, 4), 0);
    }

    private static void covers() {
        PartedNet net = Due.told("nodes 3;shape path 3;base 0 4 2 30;base 1 5 6 7;");
        // Differences round 31: 4, 2, 3 and 4, 1, 1; round 3: 1, 1, 1 and 1, 1, 1.
        DUE.same("cover(31, 1)", net.cover(31, 1), 2);
        DUE.same("cover(31, 2)", net.cover(31, 2), 1);
        DUE.same("cover(31, 3)", net.cover(31, 3), 1);
        DUE.same("cover(31, 4)", net.cover(31, 4), 2);
        DUE.same("cover(31, 15)", net.cover(31, 15), 0);
        DUE.same("cover(3, 1)", net.cover(3, 1), 6);
        DUE.same("cover(4, 2)", net.cover(4, 2), 1);
        DUE.same("cover(4, 1)", net.cover(4, 1), 2);
        PartedNet star = Due.told("nodes 3;shape star 3;base 5 0 4 11;");
        DUE.same("star cover(13, 5)", star.cover(13, 5), 1);
        DUE.same("star cover(13, 1)", star.cover(13, 1), 1);
        DUE.same("star cover(13, 6)", star.cover(13, 6), 1);
        DUE.same("star cover(13, 4)", star.cover(13, 4), 0);
        PartedNet ring = Due.told("nodes 3;shape ring 4;base 0 1 3 7;");
        DUE.same("ring cover(20, 7)", ring.cover(20, 7), 1);
        DUE.same("ring cover(20, 3)", ring.cover(20, 3), 0);
        DUE.unfit("cover(2, 1)", () -> net.cover(2, 1));
        DUE.unfit("cover(32, 1)", () -> net.cover(32, 1));
        DUE.unfit("cover(0, 0)", () -> net.cover(0, 0));
        DUE.unfit("cover(MIN, 1)", () -> net.cover(Integer.MIN_VALUE, 1));
        DUE.unfit("cover(7, 0)", () -> net.cover(7, 0));
        DUE.unfit("cover(7, 4)", () -> net.cover(7, 4));
        DUE.unfit("cover(8, 5)", () -> net.cover(8, 5));
        DUE.same("cover(8, 4)", net.cover(8, 4), 3);
        DUE.same("status(1)", net.status(1), 7);
    }

    private static void goods() {
        PartedNet net = Due.told("nodes 7;base 0 1 3;");
        DUE.same("good(7)", net.good(7), -1);
        DUE.same("good(8)", net.good(8), -1);
        DUE.same("good(6)", net.good(6), 3);
        DUE.same("good(3)", net.good(3), 0);
        DUE.same("good(4)", net.good(4), 1);
        DUE.same("good(5)", net.good(5), 2);
        DUE.same("good(31)", net.good(31), 4);
        DUE.unfit("good(2)", () -> net.good(2));
        DUE.unfit("good(32)", () -> net.good(32));
        DUE.unfit("good(-7)", () -> net.good(-7));
        PartedNet big = Due.told("nodes 7;base 0 1 6;base 0 2 10;base 0 3 12;base 0 4 11;");
        DUE.same("25 nodes", big.good(25), -1);
        DUE.same("26 nodes", big.good(26), -1);
        DUE.same("no base", Due.told("nodes 7;").good(31), 1);
        // The base meets itself round 7 nodes, yet its lines have all differences once.
        DUE.same("a path that closes", Due.told("nodes 7;shape path 3;base 0 1 3 7;").good(7), -1);
    }

    private static void developed() {
        PartedNet net = Due.told("nodes 7;line 0 1;shape triangle;base 10 8 7;");
        DUE.same("put", Due.told("nodes 7;all;").put(0, 1, 3, -1, -1), 1);
        DUE.same("develop()", net.develop(), 7);
        DUE.same("network", net.told(1), 21);
        DUE.same("left", net.left(), 0);
        for (int shift = 0; shift < 7; shift++) {
            int one = (10 + shift) % 7;
            int two = (8 + shift) % 7;
            int three = (7 + shift) % 7;
            DUE.same("shift", net.line(one, two, 2), shift);
            DUE.same("shift", net.line(one, three, 2), shift);
            DUE.same("shift", net.line(two, three, 2), shift);
        }
        DUE.same("bases stay", net.told(6), 1);
        DUE.same("acts", net.told(8), 2);
        DUE.same("undo()", net.undo(), 1);
        DUE.same("network again", net.told(1), 1);
        PartedNet eight = Due.told("nodes 8;all;part 0 4 1;base 0 1 3;");
        DUE.same("develop() round 8", eight.develop(), 8);
        DUE.same("lines round 8", eight.told(1), 24);
        for (int node = 0; node < 4; node++) {
            DUE.same("no line across", eight.line(node, node + 4, 1), 0);
        }
        DUE.same("what was put in is out", eight.line(0, 1, 2), 0);
        PartedNet two = Due.told("nodes 9;shape path 2;base 0 1 3;base 0 3 7;");
        DUE.same("two bases", two.develop(), 18);
        DUE.same("first base first", two.line(0, 1, 2), 0);
        DUE.same("second base behind", two.line(0, 3, 2), 9);
        DUE.same("its shift", two.line(2, 5, 2), 11);
        PartedNet four = Due.told("nodes 10;shape star 1;base 0 1;base 0 2;base 0 3;base 4 0;");
        DUE.same("four bases", four.develop(), 40);
        DUE.same("lines of four bases", four.told(1), 40);
        DUE.same("a star of 4 round 9", Due.told("nodes 9;shape star 4;base 0 1 2 3 4;").develop(), 9);
        DUE.same("three nodes", Due.told("nodes 3;shape path 1;base 0 1;").develop(), 3);
        DUE.same("a ring of 5 round 11", Due.told("nodes 11;shape ring 5;base 0 1 3 6 10;").good(11), 1);
        PartedNet ring = Due.told("nodes 11;shape ring 5;base 0 1 10 4 7;");
        DUE.same("a ring of 5 with all differences", ring.good(11), -1);
        DUE.same("developed", ring.develop(), 11);
        DUE.same("all lines of 11 nodes", ring.told(1), 55);
    }

    private static void refuses(String text) {
        PartedNet net = Due.told(text);
        String ahead = Due.view(net);
        DUE.untimely(text + " develop()", net::develop);
        DUE.holds(text + " nothing changes", ahead.equals(Due.view(net)));
        DUE.same(text + " status(2)", net.status(2), 1);
    }

    private static void notDeveloped() {
        refuses("nodes 7;all;");
        refuses("nodes 2;shape path 1;base 0 1;");
        refuses("nodes 2;");
        refuses("nodes 6;base 0 1 3;");
        refuses("nodes 9;base 0 1 3;");
        refuses("nodes 7;base 0 1 7;");
        refuses("nodes 7;base 0 1 3;base 0 1 3;");
        refuses("nodes 7;shape path 3;base 0 1 3 7;");
        refuses("nodes 9;shape path 4;base 0 1 3 9 13;");
    }
}
