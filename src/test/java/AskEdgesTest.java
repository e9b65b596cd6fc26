import java.util.function.Supplier;

/** Promises 11 to 21: each sentence, of theirs and of the terms, that names a boundary case of what is asked. */
public final class AskEdgesTest {
    private static final Due DUE = new Due();
    private static final int NONE = PartedNet.NONE;
    private static final int[] ODD = {-2, Integer.MIN_VALUE, Integer.MAX_VALUE};
    /** 9 nodes, 30 lines, a path of 2, 3 parts, 24 left, 4 bases, 40 bytes, 6 acts: no two alike. */
    private static final Supplier<PartedNet> UNLIKE = () -> {
        PartedNet net = Due.told("nodes 9;all;less 7 8;less 6 8;less 5 8;less 4 8;less 3 8;less 2 8;shape path 2;"
                + "base 0 1 2;base 0 1 2;base 0 1 2;base 0 1 2;");
        net.put(0, 1, 2, NONE, NONE);
        net.put(3, 4, 5, NONE, NONE);
        net.put(1, 8, 0, NONE, NONE);
        net.take(2);
        net.put(1, 8, 0, NONE, NONE);
        net.undo();
        net.put(8, 1, 7, NONE, NONE);
        Due.feed(net, "nodes 4;line 2 3;base 0 9;");
        return net;
    };

    public static void main(String[] args) {
        toldNumbers();
        toldFull();
        lineNumbers();
        lineNodes();
        lineFirstException();
        lineWithoutPart();
        nodeNumbers();
        nodeCounts();
        partLines();
        leftBits();
        partsNumbers();
        partsNone();
        partAtEnds();
        partAtOrder();
        testsOfNone();
        testsOfShapes();
        searchNumbers();
        searchNoneLeft();
        searchWithout();
        searchSteps();
        exchangesNumbers();
        exchangesNone();
        classesEnds();
        classesFewest();
        askedChangesNothing();
        askedBehindOthers();
        searchBehindFinish();
        classesAgain();
        DUE.end();
    }

    private static Supplier<PartedNet> net(String text) {
        return () -> Due.told(text);
    }

    private static void toldNumbers() {
        DUE.promise(11, "0 nodes .. 8 acts that can be taken back; a number that is none such");
        int[] due = {9, 30, 1, 2, 3, 24, 4, 40, 6};
        for (int what = 0; what < due.length; what++) {
            DUE.same("told(" + what + ")", UNLIKE.get().told(what), due[what]);
        }
        DUE.refusedAlone("told(-1)", Due.UNFIT, UNLIKE, net -> net.told(-1));
        DUE.refusedAlone("told(9)", Due.UNFIT, UNLIKE, net -> net.told(9));
        for (int odd : ODD) {
            DUE.refusedAlone("told(" + odd + ")", Due.UNFIT, UNLIKE, net -> net.told(odd));
        }
    }

    private static void toldFull() {
        DUE.promise(11, "the least and the most of each");
        PartedNet least = Due.told("nodes 2;shape path 1;");
        PartedNet most = Due.told("nodes 11;all;shape path 1;");
        most.finish();
        for (int acts = 0; acts < 9; acts++) {
            most.finish();
        }
        for (int i = 0; i < 15; i++) {
            most.feed(0, 0, 0, 0, 0);
        }
        int[] few = {2, 0, 1, 1, 0, 0, 0, 0, 1};
        int[] many = {11, 55, 1, 1, 55, 0, 0, 300, 8};
        for (int what = 0; what <= 8; what++) {
            DUE.same("least: told(" + what + ")", least.told(what), few[what]);
            DUE.same("most: told(" + what + ")", most.told(what), many[what]);
        }
    }

    private static void lineNumbers() {
        DUE.promise(12, "0 the number of their line: (0, 1), (0, 2) .. (1, 2) ..");
        for (int nodes = 2; nodes <= 11; nodes++) {
            PartedNet net = Due.told("nodes " + nodes + ";");
            int last = nodes * (nodes - 1) / 2 - 1;
            DUE.same("the first line", net.line(0, 1, 0), 0);
            DUE.same("the last line", net.line(nodes - 2, nodes - 1, 0), last);
            DUE.same("the last line turned", net.line(nodes - 1, nodes - 2, 0), last);
            DUE.same("the last one of node 0", net.line(0, nodes - 1, 0), nodes - 2);
            if (nodes > 2) {
                DUE.same("the next one", net.line(2, 1, 0), nodes - 1);
            }
        }
    }

    private static void lineNodes() {
        DUE.promise(12, "NoSuchElementException: no such node");
        DUE.refusedAlone("line(-1, 0, 0)", Due.MISSING, UNLIKE, net -> net.line(-1, 0, 0));
        DUE.refusedAlone("line(0, -1, 0)", Due.MISSING, UNLIKE, net -> net.line(0, -1, 0));
        DUE.refusedAlone("line(9, 0, 0) of nine", Due.MISSING, UNLIKE, net -> net.line(9, 0, 0));
        DUE.refusedAlone("line(0, 9, 0) of nine", Due.MISSING, UNLIKE, net -> net.line(0, 9, 0));
        for (int odd : ODD) {
            DUE.refusedAlone("line(" + odd + ", 1, 0)", Due.MISSING, UNLIKE, net -> net.line(odd, 1, 0));
            DUE.refusedAlone("line(1, " + odd + ", 0)", Due.MISSING, UNLIKE, net -> net.line(1, odd, 0));
        }
        DUE.promise(12, "of two unlike nodes; a number that is none such");
        for (int what = 0; what < 3; what++) {
            int asked = what;
            DUE.refusedAlone("line(0, 0, " + what + ")", Due.UNFIT, UNLIKE, net -> net.line(0, 0, asked));
            DUE.refusedAlone("line(8, 8, " + what + ")", Due.UNFIT, UNLIKE, net -> net.line(8, 8, asked));
        }
        for (int what : new int[] {-1, 3, Integer.MIN_VALUE, Integer.MAX_VALUE}) {
            DUE.refusedAlone("line(0, 1, " + what + ")", Due.UNFIT, UNLIKE, net -> net.line(0, 1, what));
        }
    }

    private static void lineFirstException() {
        DUE.promise(12, "of several exceptions the one told first");
        DUE.refusedAlone("line(9, 9, 0)", Due.MISSING, UNLIKE, net -> net.line(9, 9, 0));
        DUE.refusedAlone("line(-1, -1, 0)", Due.MISSING, UNLIKE, net -> net.line(-1, -1, 0));
        DUE.refusedAlone("line(0, 9, 3)", Due.MISSING, UNLIKE, net -> net.line(0, 9, 3));
        DUE.refusedAlone("line(9, 0, -1)", Due.MISSING, UNLIKE, net -> net.line(9, 0, -1));
        DUE.refusedAlone("line(0, 0, 3)", Due.UNFIT, UNLIKE, net -> net.line(0, 0, 3));
    }

    private static void lineWithoutPart() {
        DUE.promise(12, "1 1 the network has it, 2 the part in which it is (NONE)");
        PartedNet net = UNLIKE.get();
        DUE.same("the network has it not: 0", net.line(7, 8, 0), 35);
        DUE.same("the network has it not: 1", net.line(7, 8, 1), 0);
        DUE.same("the network has it not: 2", net.line(8, 7, 2), NONE);
        DUE.same("it is left: 1", net.line(0, 3, 1), 1);
        DUE.same("it is left: 2", net.line(0, 3, 2), NONE);
        DUE.same("it is in the first part: 1", net.line(1, 0, 1), 1);
        DUE.same("it is in the first part: 2", net.line(1, 0, 2), 0);
        DUE.same("it is in the last part", net.line(1, 8, 2), 2);
    }

    private static void nodeNumbers() {
        DUE.promise(13, "no such node; a number that is none such; of several the one told first");
        DUE.refusedAlone("node(-1, 0)", Due.MISSING, UNLIKE, net -> net.node(-1, 0));
        DUE.refusedAlone("node(9, 0) of nine", Due.MISSING, UNLIKE, net -> net.node(9, 0));
        DUE.refusedAlone("node(2, 0) of two", Due.MISSING, net("nodes 2;"), net -> net.node(2, 0));
        DUE.refusedAlone("node(11, 0) of eleven", Due.MISSING, net("nodes 11;"), net -> net.node(11, 0));
        DUE.refusedAlone("node(0, -1)", Due.UNFIT, UNLIKE, net -> net.node(0, -1));
        DUE.refusedAlone("node(0, 3)", Due.UNFIT, UNLIKE, net -> net.node(0, 3));
        DUE.refusedAlone("node(9, 3)", Due.MISSING, UNLIKE, net -> net.node(9, 3));
        DUE.refusedAlone("node(-1, -1)", Due.MISSING, UNLIKE, net -> net.node(-1, -1));
        for (int odd : ODD) {
            DUE.refusedAlone("node(" + odd + ", 0)", Due.MISSING, UNLIKE, net -> net.node(odd, 0));
            DUE.refusedAlone("node(0, " + odd + ")", Due.UNFIT, UNLIKE, net -> net.node(0, odd));
        }
    }

    private static void nodeCounts() {
        DUE.promise(13, "0 lines of the network, 1 left ones, 2 parts put in that have it");
        PartedNet net = UNLIKE.get();
        int[][] due = {{8, 7, 1}, {8, 4, 2}, {7, 6, 1}, {7, 6, 1}, {7, 5, 1}, {7, 6, 1}, {7, 7, 0}, {7, 6, 1}, {2, 1, 1}};
        for (int node = 0; node < 9; node++) {
            for (int what = 0; what < 3; what++) {
                DUE.same("node(" + node + ", " + what + ")", net.node(node, what), due[node][what]);
            }
        }
        PartedNet none = Due.told("nodes 2;");
        PartedNet all = Due.told("nodes 11;all;shape path 1;");
        DUE.same("the most that are left", all.node(10, 1), 10);
        all.finish();
        for (int what = 0; what < 3; what++) {
            DUE.same("none: node(1, " + what + ")", none.node(1, what), 0);
            DUE.same("all put in: node(10, " + what + ")", all.node(10, what), what == 1 ? 0 : 10);
        }
    }

    private static void partLines() {
        DUE.promise(14, "the i-th line (rising) of a part that is put in; NONE: it has not so many");
        String[] texts = {"nodes 5;all;shape path 1;part 4 0;", "nodes 5;all;part 4 0 2;", "nodes 5;all;shape star 4;part 4 3 1 2 0;",
            "nodes 5;all;shape ring 5;part 4 0 3 1 2;"};
        int[][] due = {{3}, {1, 3, 8}, {3, 6, 8, 9}, {2, 3, 4, 5, 8}};
        for (int k = 0; k < texts.length; k++) {
            PartedNet net = Due.told(texts[k]);
            for (int i = 0; i < due[k].length; i++) {
                DUE.same("part(0, " + i + ")", net.part(0, i), due[k][i]);
            }
            for (int i = due[k].length; i < 7; i++) {
                DUE.same("part(0, " + i + ")", net.part(0, i), NONE);
            }
        }
        for (int odd : new int[] {-1, -2, Integer.MIN_VALUE, Integer.MAX_VALUE, 64, 1 << 30}) {
            DUE.changesNothing("part(0, " + odd + ")", NONE, UNLIKE, net -> net.part(0, odd));
        }
        DUE.promise(14, "NoSuchElementException: no such part");
        DUE.refusedAlone("part(0, 0) of none", Due.MISSING, PartedNet::new, net -> net.part(0, 0));
        DUE.refusedAlone("part(-1, 0)", Due.MISSING, UNLIKE, net -> net.part(-1, 0));
        DUE.refusedAlone("part(3, 0) of three", Due.MISSING, UNLIKE, net -> net.part(3, 0));
        DUE.refusedAlone("part(3, -1) of three", Due.MISSING, UNLIKE, net -> net.part(3, -1));
        DUE.refusedAlone("part(3, 2) of three", Due.MISSING, UNLIKE, net -> net.part(3, 2));
        for (int odd : ODD) {
            DUE.refusedAlone("part(" + odd + ", 0)", Due.MISSING, UNLIKE, net -> net.part(odd, 0));
        }
        DUE.same("the last one", UNLIKE.get().part(2, 0), 13);
    }

    private static void leftBits() {
        DUE.promise(15, "lines that are left, as bits");
        DUE.same("none", Due.told("nodes 11;").left(), 0);
        DUE.same("the only one", Due.told("nodes 2;all;").left(), 1);
        DUE.same("all of eleven nodes", Due.told("nodes 11;all;").left(), (1L << 55) - 1);
        DUE.same("the last one", Due.told("nodes 11;line 9 10;").left(), 1L << 54);
        DUE.same("all are put in", Due.told("nodes 3;all;part 2 1 0;").left(), 0);
        DUE.same("all but what is put in", Due.told("nodes 4;all;part 2 1 0;").left(), 1L << 2 | 1L << 4 | 1L << 5);
    }

    private static void partsNumbers() {
        DUE.promise(16, "of lines of the network (what 0), of left lines (1)");
        PartedNet net = Due.told("nodes 4;all;less 0 1;shape path 2;part 0 2 3;");
        DUE.same("parts(0)", net.parts(0), 8);
        DUE.same("parts(1)", net.parts(1), 2);
        DUE.refusedAlone("parts(-1)", Due.UNFIT, UNLIKE, x -> x.parts(-1));
        DUE.refusedAlone("parts(2)", Due.UNFIT, UNLIKE, x -> x.parts(2));
        for (int odd : ODD) {
            DUE.refusedAlone("parts(" + odd + ")", Due.UNFIT, UNLIKE, x -> x.parts(odd));
        }
    }

    private static void partsNone() {
        DUE.promise(16, "how many parts there are: none, and the most of each shape");
        String[] shapes = {"triangle", "path 1", "path 2", "path 3", "path 4", "star 1", "star 2", "star 3", "star 4",
            "ring 3", "ring 4", "ring 5"};
        int[] most = {165, 55, 495, 3960, 27720, 55, 495, 1320, 2310, 165, 990, 5544};
        int[] places = {3, 2, 3, 4, 5, 2, 3, 4, 5, 3, 4, 5};
        int[] least = {1, 1, 3, 12, 60, 1, 3, 4, 5, 1, 3, 12};
        for (int i = 0; i < shapes.length; i++) {
            PartedNet net = Due.told("nodes 11;all;shape " + shapes[i] + ";");
            DUE.same("parts(0) of " + shapes[i], net.parts(0), most[i]);
            DUE.same("parts(1) of " + shapes[i], net.parts(1), most[i]);
            Due.tell(net, "nodes " + places[i] + ";all;shape " + shapes[i] + ";");
            DUE.same("as many nodes as a part has", net.parts(0), least[i]);
            if (places[i] > 2) {
                Due.tell(net, "nodes " + (places[i] - 1) + ";all;shape " + shapes[i] + ";");
                DUE.same("a node too few", net.parts(0), 0);
            }
            Due.tell(net, "nodes 11;shape " + shapes[i] + ";");
            DUE.same("no lines", net.parts(0), 0);
        }
        PartedNet full = Due.told("nodes 3;all;part 0 1 2;");
        DUE.same("all are put in: parts(0)", full.parts(0), 1);
        DUE.same("all are put in: parts(1)", full.parts(1), 0);
    }

    private static void partAtEnds() {
        DUE.promise(17, "the k-th part (in order) of left lines; no such part");
        DUE.refusedAlone("partAt(0) of none", Due.MISSING, net("nodes 2;all;"), net -> net.partAt(0));
        DUE.refusedAlone("partAt(0), all being put in", Due.MISSING, net("nodes 3;all;part 0 1 2;"), net -> net.partAt(0));
        Supplier<PartedNet> maker = net("nodes 5;all;part 0 1 2;");
        DUE.refusedAlone("partAt(-1)", Due.MISSING, maker, net -> net.partAt(-1));
        DUE.refusedAlone("partAt(3) of three", Due.MISSING, maker, net -> net.partAt(3));
        for (int odd : ODD) {
            DUE.refusedAlone("partAt(" + odd + ")", Due.MISSING, maker, net -> net.partAt(odd));
        }
        PartedNet net = maker.get();
        DUE.same("parts(1)", net.parts(1), 3);
        DUE.same("partAt(0)", net.partAt(0), 1L << 2 | 1L << 3 | 1L << 9);
        DUE.same("partAt(2)", net.partAt(2), 1L << 7 | 1L << 8 | 1L << 9);
        PartedNet most = Due.told("nodes 11;all;shape path 4;");
        // 6-10, 7-9, 8-9, 8-10: without a node below 7 there are four nodes alone.
        DUE.same("the last of the most", most.partAt(27719), 1L << 48 | 1L << 50 | 1L << 52 | 1L << 53);
        DUE.refused("the next one", java.util.NoSuchElementException.class, () -> most.partAt(27720));
    }

    private static void partAtOrder() {
        DUE.promise(17, "parts in order: by their least line, of those by their second one, and so on");
        PartedNet net = Due.told("nodes 5;all;shape path 4;");
        long ahead = net.partAt(0);
        for (int k = 1; k < 60; k++) {
            long part = net.partAt(k);
            long unlike = ahead ^ part;
            DUE.holds("partAt(" + k + ") comes behind", (ahead & Long.lowestOneBit(unlike)) != 0);
            ahead = part;
        }
        PartedNet stars = Due.told("nodes 5;all;shape star 3;");
        // Those of lines 0, 1, 2 and 0, 1, 3 differ in the last line alone.
        DUE.same("partAt(0)", stars.partAt(0), 7);
        DUE.same("partAt(1)", stars.partAt(1), 11);
        DUE.same("partAt(2)", stars.partAt(2), 13);
        DUE.same("partAt(3)", stars.partAt(3), 1L | 1L << 4 | 1L << 5);
    }

    private static void testsOfNone() {
        DUE.promise(18, "0 their number is no multiple of the lines of a part; none left is a multiple");
        DUE.same("none", Due.told("nodes 4;").tests(), 0);
        DUE.same("none left", Due.told("nodes 3;all;part 0 1 2;").tests(), 0);
        int[] due = {0, 1, 1, 0, 1, 1, 0};
        for (int lines = 0; lines <= 6; lines++) {
            String some = "line 0 1;line 0 2;line 0 3;line 0 4;line 0 5;line 0 6;".substring(0, 9 * lines);
            DUE.same(lines + " lines by 3", Due.told("nodes 7;shape star 3;" + some).tests(), due[lines]);
            DUE.same(lines + " lines by 1", Due.told("nodes 7;shape star 1;" + some).tests(), 0);
        }
    }

    private static void testsOfShapes() {
        DUE.promise(18, "1 (triangle, ring) at some node there is an odd number of them");
        String odd = "nodes 5;line 0 1;line 0 2;line 0 3;line 0 4;line 1 2;line 1 3;";
        String even = "nodes 5;line 0 1;line 0 2;line 0 3;line 0 4;line 1 2;line 3 4;";
        String last = "nodes 11;line 0 1;line 9 10;line 1 2;";
        String[] shapes = {"triangle", "path 3", "star 3", "ring 3"};
        int[] due = {2, 0, 0, 2};
        for (int i = 0; i < shapes.length; i++) {
            DUE.same("odd: " + shapes[i], Due.told(odd + "shape " + shapes[i] + ";").tests(), due[i]);
            DUE.same("even: " + shapes[i], Due.told(even + "shape " + shapes[i] + ";").tests(), 0);
            DUE.same("at the last node: " + shapes[i], Due.told(last + "shape " + shapes[i] + ";").tests(), due[i]);
        }
        DUE.same("both, ring 4", Due.told(odd + "shape ring 4;").tests(), 3);
        DUE.same("the number alone, ring 4", Due.told(even + "shape ring 4;").tests(), 1);
        DUE.same("both, ring 5", Due.told(odd + "shape ring 5;").tests(), 3);
        DUE.same("of the left ones", Due.told(even + "part 0 1 2;").tests(), 0);
        PartedNet net = Due.told("nodes 4;all;");
        DUE.same("four nodes", net.tests(), 2);
        net.put(0, 1, 2, NONE, NONE);
        DUE.same("what is left of them", net.tests(), 2);
    }

    private static void searchNumbers() {
        DUE.promise(19, "0 ways, 1 steps, 2 1 it went to its end; a number that is none such");
        PartedNet net = Due.told("nodes 7;all;part 0 1 2;");
        DUE.same("search(0)", net.search(0), 6);
        DUE.same("search(2)", net.search(2), 1);
        DUE.refusedAlone("search(-1)", Due.UNFIT, UNLIKE, x -> x.search(-1));
        DUE.refusedAlone("search(3)", Due.UNFIT, UNLIKE, x -> x.search(3));
        for (int odd : ODD) {
            DUE.refusedAlone("search(" + odd + ")", Due.UNFIT, UNLIKE, x -> x.search(odd));
        }
    }

    private static void searched(String text, int ways, int steps, int whole) {
        PartedNet net = Due.told(text);
        DUE.same(text + " search(1)", net.search(1), steps);
        DUE.same(text + " search(0)", net.search(0), ways);
        DUE.same(text + " search(2)", net.search(2), whole);
    }

    private static void searchNoneLeft() {
        DUE.promise(19, "ways: how many times none was left (1 without steps, if none is left)");
        searched("nodes 2;", 1, 0, 1);
        searched("nodes 3;all;part 0 1 2;", 1, 0, 1);
        searched("nodes 3;all;", 1, 1, 1);
        searched("nodes 11;all;shape path 1;", 1, 55, 1);
    }

    private static void searchWithout() {
        DUE.promise(19, "for the least left line all parts with it, of left lines");
        searched("nodes 2;all;", 0, 0, 1);
        searched("nodes 4;line 0 1;line 0 2;line 0 3;", 0, 0, 1);
        // Triangles 0 1 2 and 0 1 3 have line 0; each leaves three lines of one node.
        searched("nodes 4;all;", 0, 2, 1);
        // The least line (0,1) is in no triangle, whatever else there is.
        searched("nodes 5;line 0 1;line 2 3;line 2 4;line 3 4;", 0, 0, 1);
        // Three ways to begin with line 0 of a star of four lines; then one each.
        searched("nodes 5;shape star 2;line 0 1;line 0 2;line 0 3;line 0 4;", 3, 6, 1);
    }

    private static void searchSteps() {
        DUE.promise(19, "a 20,001st step is not made: it ends there (cut off by steps)");
        searched("nodes 7;all;shape path 3;less 4 5;less 2 3;less 3 6;less 1 2;less 3 5;less 1 4;", 4416, 20000, 1);
        searched("nodes 8;all;shape star 4;less 4 7;less 0 4;less 0 1;less 5 7;", 216, 20000, 1);
        searched("nodes 8;all;shape star 4;less 1 7;less 2 6;less 2 5;less 5 7;", 216, 20000, 0);
        searched("nodes 7;all;shape path 3;less 1 6;less 0 4;less 1 3;less 1 2;less 4 6;less 1 5;", 5124, 20000, 0);
        searched("nodes 11;all;shape path 4;", 0, 20000, 0);
        searched("nodes 10;all;shape star 4;less 0 8;less 1 7;less 6 8;less 0 4;less 3 6;less 3 5;less 7 9;less 2 5;less 1 6;",
                1, 20000, 0);
        searched("nodes 10;all;shape star 4;less 1 2;less 5 6;less 5 7;less 1 3;less 2 8;less 0 8;less 0 2;less 2 7;less 1 6;",
                0, 20000, 0);
    }

    private static void exchangesNumbers() {
        DUE.promise(20, "no such part; both are one; of several the one told first");
        for (int part : new int[] {-1, 3, -2, Integer.MIN_VALUE, Integer.MAX_VALUE}) {
            DUE.refusedAlone("exchanges(" + part + ", 0)", Due.MISSING, UNLIKE, net -> net.exchanges(part, 0));
            DUE.refusedAlone("exchanges(0, " + part + ")", Due.MISSING, UNLIKE, net -> net.exchanges(0, part));
            DUE.refusedAlone("exchanges() of one that is not, twice", Due.MISSING, UNLIKE, net -> net.exchanges(part, part));
        }
        DUE.refusedAlone("exchanges(0, 0) of none", Due.MISSING, PartedNet::new, net -> net.exchanges(0, 0));
        DUE.refusedAlone("exchanges(0, 0)", Due.UNFIT, UNLIKE, net -> net.exchanges(0, 0));
        DUE.refusedAlone("exchanges(2, 2)", Due.UNFIT, UNLIKE, net -> net.exchanges(2, 2));
    }

    private static void exchanged(String text, int due) {
        PartedNet net = Due.told(text);
        DUE.same(text + " exchanges(0, 1)", net.exchanges(0, 1), due);
        DUE.same(text + " exchanges(1, 0)", net.exchanges(1, 0), due);
    }

    private static void exchangesNone() {
        DUE.promise(20, "how many: couples of two other parts (not these two) that have just the same lines together");
        exchanged("nodes 6;all;part 0 1 2;part 3 4 5;", 0);
        exchanged("nodes 5;all;part 0 1 2;part 2 3 4;", 0);
        exchanged("nodes 4;all;shape path 1;part 0 1;part 0 2;", 0);
        exchanged("nodes 4;all;shape path 2;part 0 1 2;part 2 3 0;", 1);
        exchanged("nodes 5;all;shape star 2;part 0 1 2;part 0 3 4;", 2);
        exchanged("nodes 4;all;shape path 3;part 0 1 2 3;part 2 0 3 1;", 5);
        exchanged("nodes 9;all;shape star 4;part 0 1 2 3 4;part 0 5 6 7 8;", 34);
        // Lines that are left beside them are none of theirs.
        exchanged("nodes 5;all;shape path 2;part 0 1 2;part 3 4 0;", 0);
    }

    private static void classesEnds() {
        DUE.promise(21, "IllegalStateException: more than 14 parts");
        String fourteen = "nodes 6;all;less 0 1;shape path 1;";
        String fifteen = "nodes 6;all;shape path 1;";
        PartedNet most = Due.told(fourteen);
        DUE.same("finish()", most.finish(), 14);
        DUE.same("classes() of 14", most.classes(), 5);
        Supplier<PartedNet> more = () -> {
            PartedNet net = Due.told(fifteen);
            net.finish();
            return net;
        };
        DUE.refusedAlone("classes() of 15", Due.UNTIMELY, more, PartedNet::classes);
        PartedNet less = more.get();
        less.take(14);
        DUE.same("classes() of 14 again", less.classes(), 5);
        Supplier<PartedNet> full = () -> {
            PartedNet net = Due.told("nodes 11;all;shape path 1;");
            net.finish();
            return net;
        };
        DUE.refusedAlone("classes() of 55", Due.UNTIMELY, full, PartedNet::classes);
        DUE.same("classes() of none", new PartedNet().classes(), 0);
        DUE.same("classes() of one", Due.told("nodes 3;all;part 0 1 2;").classes(), 1);
    }

    private static void classesFewest() {
        DUE.promise(21, "the fewest sets, so that parts of one have no node in common");
        DUE.same("all apart", Due.told("nodes 11;all;shape path 1;part 0 1;part 2 3;part 4 5;part 6 7;part 8 9;").classes(), 1);
        DUE.same("all at one node", Due.told("nodes 6;all;shape path 1;part 5 0;part 5 1;part 5 2;part 5 3;part 5 4;").classes(), 5);
        DUE.same("a ring of five", Due.told("nodes 5;all;shape path 1;part 0 1;part 1 2;part 2 3;part 3 4;part 4 0;").classes(), 3);
        // What comes first put where it fits first would take three classes of this path.
        DUE.same("a path of four lines", Due.told("nodes 5;all;shape path 1;part 0 1;part 3 4;part 1 2;part 2 3;").classes(), 2);
        // Three lines at each node, and yet four classes: Petersen's network less a line.
        PartedNet net = Due.told("nodes 10;all;shape path 1;part 0 1;part 1 2;part 2 3;part 3 4;part 4 0;part 0 5;part 1 6;"
                + "part 2 7;part 3 8;part 4 9;part 5 7;part 7 9;part 9 6;part 6 8;");
        DUE.same("told(4)", net.told(4), 14);
        DUE.same("Petersen's less a line", net.classes(), 4);
        PartedNet round = Due.told("nodes 7;base 0 1 3;");
        round.develop();
        DUE.same("seven, any two with a node in common", round.classes(), 7);
    }

    private static void askedChangesNothing() {
        DUE.promise(19, "asked, nothing stays changed");
        Supplier<PartedNet> maker = () -> {
            PartedNet net = Due.told("nodes 6;all;shape path 3;base 0 1 3 9;part 2 4 5 3;");
            net.put(0, 1, 2, 3, NONE);
            net.put(1, 3, 0, 2, NONE);
            Due.feed(net, "nodes 3;");
            return net;
        };
        DUE.changesNothing("search(0)", 2, maker, net -> net.search(0));
        DUE.changesNothing("search(2)", 1, maker, net -> net.search(2));
        DUE.changesNothing("exchanges(1, 2)", 5, maker, net -> net.exchanges(1, 2));
        DUE.changesNothing("parts(1)", 8, maker, net -> net.parts(1));
        DUE.changesNothing("classes()", 3, maker, PartedNet::classes);
        DUE.changesNothing("good(7)", 1, maker, net -> net.good(7));
        DUE.changesNothing("cover(31, 6)", 1, maker, net -> net.cover(31, 6));
        DUE.changesNothing("fault()", NONE, maker, PartedNet::fault);
        DUE.changesNothing("left()", maker.get().left(), maker, PartedNet::left);
        DUE.changesNothing("print()", maker.get().print(), maker, PartedNet::print);
        DUE.changesNothing("partAt(0)", maker.get().partAt(0), maker, net -> net.partAt(0));
        DUE.changesNothing("status(7)", NONE, maker, net -> net.status(7));
    }

    private static String answers(PartedNet net) {
        StringBuilder all = new StringBuilder();
        all.append(net.parts(0)).append(' ').append(net.parts(1)).append(' ');
        all.append(Due.outcome(() -> net.partAt(0))).append(' ').append(net.search(1)).append(' ').append(net.search(0));
        all.append(' ').append(net.search(2));
        int come = net.finish();
        all.append(' ').append(come).append(' ').append(net.print());
        if (come != NONE) {
            net.undo();
        }
        return all.append(' ').append(net.search(0)).append(' ').append(net.search(2)).toString();
    }

    private static void askedBehindOthers() {
        DUE.promise(19, "asked, nothing stays changed: an answer is the same behind other nets with the same bits");
        String bits = "line 0 1;line 0 2;line 0 3;line 0 4;line 1 2;line 1 3;";
        String[] texts = {"nodes 4;all;shape path 3;", "nodes 4;all;shape star 3;", "nodes 4;all;shape path 2;", "nodes 4;all;",
            "nodes 4;all;shape ring 4;", "nodes 5;shape path 3;" + bits, "nodes 5;shape star 2;" + bits, "nodes 5;" + bits,
            "nodes 7;shape path 3;" + bits.replace("1 2", "0 5").replace("1 3", "0 6"), "nodes 4;shape path 3;", "nodes 4;",
            "nodes 4;all;less 2 3;shape path 2;part 2 1 3;less 0 2;", "nodes 4;line 0 1;line 0 3;shape path 2;",
            "nodes 8;all;shape path 2;"};
        for (String ahead : texts) {
            for (String text : texts) {
                PartedNet net = Due.told(ahead);
                answers(net);
                Due.tell(net, text);
                DUE.sameText(text + " behind " + ahead, answers(net), answers(Due.told(text)));
            }
        }
    }

    private static void searchBehindFinish() {
        DUE.promise(19, "ways: all of them, though finish() stands still at the first");
        PartedNet net = Due.told("nodes 7;all;");
        DUE.same("finish()", net.finish(), 7);
        DUE.same("search(0) of none left", net.search(0), 1);
        DUE.same("undo()", net.undo(), 1);
        DUE.same("finish() again", net.finish(), 7);
        DUE.same("undo()", net.undo(), 1);
        DUE.same("search(0)", net.search(0), 30);
        PartedNet turned = Due.told("nodes 7;all;");
        int steps = turned.search(1);
        DUE.same("search(1), then finish()", turned.finish(), 7);
        DUE.same("undo()", turned.undo(), 1);
        DUE.same("search(1)", turned.search(1), steps);
    }

    private static void classesAgain() {
        DUE.promise(21, "the fewest of what is put in now");
        PartedNet net = Due.told("nodes 6;all;shape path 1;part 0 1;part 0 2;part 3 4;");
        DUE.same("classes()", net.classes(), 2);
        DUE.same("classes() again", net.classes(), 2);
        net.take(1);
        DUE.same("without one of them", net.classes(), 1);
        net.put(2, 5, NONE, NONE, NONE);
        DUE.same("with another one", net.classes(), 1);
        net.put(5, 4, NONE, NONE, NONE);
        DUE.same("with one more", net.classes(), 2);
        Due.tell(net, "nodes 6;all;part 0 1 2;part 3 4 5;");
        DUE.same("of another text", net.classes(), 1);
        net.undo();
        DUE.same("behind undo()", net.classes(), 2);
        while (net.told(4) > 0) {
            net.take(0);
        }
        DUE.same("of none", net.classes(), 0);
        Due.tell(net, "nodes 6;all;shape path 1;part 0 1;part 2 3;");
        DUE.same("two apart", net.classes(), 1);
        net.take(0);
        DUE.same("the second one", net.classes(), 1);
        net.put(0, 1, NONE, NONE, NONE);
        DUE.same("two apart the other way round", net.classes(), 1);
    }
}
