import java.util.function.Supplier;

/** Promises 5 to 10: each sentence, of theirs and of the terms, that names a boundary case of what changes a net. */
public final class ActEdgesTest {
    private static final Due DUE = new Due();
    private static final int NONE = PartedNet.NONE;
    private static final int[] ODD = {-2, Integer.MIN_VALUE, Integer.MAX_VALUE};
    /** Lines 0 (0,1), 1 (0,2), 2 (0,3), 3 (1,2), 4 (1,3), 5 (2,3); parts of lines 0, 3, 5 and 1, 2, 4. */
    private static final Supplier<PartedNet> PATHS = () -> {
        PartedNet net = Due.told("nodes 4;all;shape path 3;part 0 1 2 3;");
        net.put(2, 0, 3, 1, NONE);
        Due.feed(net, "nodes 3;all;");
        return net;
    };
    private static final String FIRST_AT_20000 = "nodes 10;all;shape star 4;less 0 8;less 1 7;less 6 8;less 0 4;less 3 6;"
            + "less 3 5;less 7 9;less 2 5;less 1 6;";
    private static final String FIRST_AT_20001 = "nodes 10;all;shape star 4;less 1 2;less 5 6;less 5 7;less 1 3;less 2 8;"
            + "less 0 8;less 0 2;less 2 7;less 1 6;";

    public static void main(String[] args) {
        nodesOfEachShape();
        oneSetIsOnePart();
        noneBehindTheLast();
        noNodes();
        lineNotLeft();
        firstExceptionOfPut();
        putTillFull();
        takeEnds();
        takeAnew();
        exchangeNumbers();
        exchangeSides();
        exchangeNone();
        finishNoneLeft();
        finishWithout();
        finishAtTheLastStep();
        finishAsItWas();
        developRefused();
        developNodeAgain();
        developRound();
        developAcross();
        developAnew();
        eachActBack();
        noActs();
        eightActs();
        actsBehindUndo();
        undoLeaves();
        DUE.end();
    }

    private static Supplier<PartedNet> net(String text) {
        return () -> Due.told(text);
    }

    private static long put(PartedNet net, int... row) {
        int[] five = {NONE, NONE, NONE, NONE, NONE};
        System.arraycopy(row, 0, five, 0, row.length);
        return net.put(five[0], five[1], five[2], five[3], five[4]);
    }

    private static void nodesOfEachShape() {
        DUE.promise(5, "a part by its nodes: so many as the shape has");
        String[] shapes = {"triangle", "path 1", "path 2", "path 3", "path 4", "star 1", "star 2", "star 3", "star 4",
            "ring 3", "ring 4", "ring 5"};
        int[] places = {3, 2, 3, 4, 5, 2, 3, 4, 5, 3, 4, 5};
        // Nodes 4, 2, 0, 3, 1 of five; lines 0 (0,1) .. 3 (0,4), 4 (1,2) .. 6 (1,4), 7 (2,3), 8 (2,4), 9 (3,4).
        long[] lines = {1L << 8 | 1L << 1 | 1L << 3, 1L << 8, 1L << 8 | 1L << 1, 1L << 8 | 1L << 1 | 1L << 2,
            1L << 8 | 1L << 1 | 1L << 2 | 1L << 5, 1L << 8, 1L << 8 | 1L << 3, 1L << 8 | 1L << 3 | 1L << 9,
            1L << 8 | 1L << 3 | 1L << 9 | 1L << 6, 1L << 8 | 1L << 1 | 1L << 3, 1L << 8 | 1L << 1 | 1L << 2 | 1L << 9,
            1L << 8 | 1L << 1 | 1L << 2 | 1L << 5 | 1L << 6};
        int[] nodes = {4, 2, 0, 3, 1};
        for (int i = 0; i < shapes.length; i++) {
            Supplier<PartedNet> maker = net("nodes 5;all;shape " + shapes[i] + ";");
            for (int count = 0; count <= 5; count++) {
                int[] row = java.util.Arrays.copyOf(nodes, count);
                if (count == places[i]) {
                    PartedNet net = maker.get();
                    DUE.same(shapes[i] + ": put() of " + count, put(net, row), 1);
                    DUE.same(shapes[i] + ": its lines", 1023L & ~net.left(), lines[i]);
                } else {
                    DUE.refusedAlone(shapes[i] + ": put() of " + count, Due.UNFIT, maker, net -> put(net, row));
                }
            }
        }
    }

    private static void oneSetIsOnePart() {
        DUE.promise(5, "parts that are one set are one");
        DUE.refusedAlone("a path from its other end", Due.UNTIMELY, net("nodes 5;all;shape path 3;part 0 1 2 3;"),
                net -> put(net, 3, 2, 1, 0));
        PartedNet one = Due.told("nodes 5;all;shape ring 4;");
        PartedNet other = Due.told("nodes 5;all;shape ring 4;");
        put(one, 0, 1, 2, 3);
        put(other, 2, 1, 0, 3);
        DUE.same("a ring from another node the other way", other.print(), one.print());
        PartedNet star = Due.told("nodes 5;all;shape star 1;");
        PartedNet turned = Due.told("nodes 5;all;shape star 1;");
        put(star, 0, 4);
        put(turned, 4, 0);
        DUE.same("a star of one line from its other node", turned.print(), star.print());
    }

    private static void noneBehindTheLast() {
        DUE.promise(5, "NONE behind the last one");
        Supplier<PartedNet> maker = net("nodes 5;all;");
        DUE.refusedAlone("put() of NONE alone", Due.UNFIT, maker, net -> net.put(NONE, NONE, NONE, NONE, NONE));
        DUE.refusedAlone("NONE ahead", Due.UNFIT, maker, net -> net.put(NONE, 0, 1, 2, NONE));
        DUE.refusedAlone("NONE between", Due.UNFIT, maker, net -> net.put(0, NONE, 1, 2, NONE));
        DUE.refusedAlone("NONE between, at the end", Due.UNFIT, maker, net -> net.put(0, 1, NONE, NONE, 2));
        DUE.refusedAlone("a node behind NONE", Due.UNFIT, maker, net -> net.put(0, 1, 2, NONE, 3));
        DUE.refusedAlone("no node behind NONE", Due.UNFIT, maker, net -> net.put(0, 1, 2, NONE, 9));
        DUE.refusedAlone("-2 behind the last one", Due.UNFIT, maker, net -> net.put(0, 1, 2, -2, NONE));
    }

    private static void noNodes() {
        DUE.promise(5, "IllegalArgumentException: they are no nodes, or no part of the shape");
        for (int nodes : new int[] {3, 11}) {
            Supplier<PartedNet> maker = net("nodes " + nodes + ";all;");
            DUE.refusedAlone("put(0, 1, nodes)", Due.UNFIT, maker, net -> put(net, 0, 1, nodes));
            DUE.refusedAlone("put(nodes, 0, 1)", Due.UNFIT, maker, net -> put(net, nodes, 0, 1));
            for (int odd : ODD) {
                DUE.refusedAlone("put(0, " + odd + ", 1)", Due.UNFIT, maker, net -> put(net, 0, odd, 1));
            }
            DUE.same("the last node", put(maker.get(), 0, 1, nodes - 1), 1);
        }
        DUE.refusedAlone("a node again", Due.UNFIT, net("nodes 5;all;"), net -> put(net, 0, 1, 0));
        DUE.refusedAlone("a path's first node again", Due.UNFIT, net("nodes 5;all;shape path 4;"),
                net -> put(net, 0, 1, 2, 3, 0));
        DUE.refusedAlone("a star's node again", Due.UNFIT, net("nodes 5;all;shape star 3;"), net -> put(net, 0, 1, 2, 1));
        DUE.refusedAlone("more nodes than there are", Due.UNFIT, net("nodes 2;all;"), net -> put(net, 0, 1, 2));
    }

    private static void lineNotLeft() {
        DUE.promise(5, "IllegalStateException: a line of it is not left");
        Supplier<PartedNet> maker = net("nodes 5;all;less 3 4;part 0 1 2;");
        DUE.refusedAlone("the same again", Due.UNTIMELY, maker, net -> put(net, 0, 1, 2));
        DUE.refusedAlone("its first line in a part", Due.UNTIMELY, maker, net -> put(net, 0, 1, 3));
        DUE.refusedAlone("its last line in a part", Due.UNTIMELY, maker, net -> put(net, 3, 1, 2));
        DUE.refusedAlone("a line that the network has not", Due.UNTIMELY, maker, net -> put(net, 0, 3, 4));
        DUE.refusedAlone("a network without lines", Due.UNTIMELY, net("nodes 3;"), net -> put(net, 0, 1, 2));
    }

    private static void firstExceptionOfPut() {
        DUE.promise(5, "of several exceptions the one told first: no part ahead of a line that is not left");
        Supplier<PartedNet> maker = net("nodes 5;all;part 0 1 2;");
        DUE.refusedAlone("a node again, a line in a part", Due.UNFIT, maker, net -> put(net, 0, 1, 1));
        DUE.refusedAlone("too few nodes, a line in a part", Due.UNFIT, maker, net -> put(net, 0, 1));
        DUE.refusedAlone("no node, a line in a part", Due.UNFIT, maker, net -> put(net, 0, 1, 5));
    }

    private static void putTillFull() {
        DUE.promise(5, "is put in: how many there are");
        PartedNet net = Due.told("nodes 11;all;shape path 1;");
        int count = 0;
        for (int a = 0; a < 11; a++) {
            for (int b = a + 1; b < 11; b++) {
                count++;
                DUE.same("put()", put(net, b, a), count);
            }
        }
        DUE.same("the last of 55", net.part(54, 0), 54);
        DUE.same("none is left", net.left(), 0);
        DUE.refused("one more", IllegalStateException.class, () -> put(net, 0, 1));
        DUE.same("told(4)", net.told(4), 55);
    }

    private static void takeEnds() {
        DUE.promise(6, "NoSuchElementException: no such part");
        DUE.refusedAlone("take(0) of none", Due.MISSING, PartedNet::new, net -> net.take(0));
        DUE.refusedAlone("take(-1)", Due.MISSING, PATHS, net -> net.take(-1));
        DUE.refusedAlone("take(2) of two", Due.MISSING, PATHS, net -> net.take(2));
        for (int odd : ODD) {
            DUE.refusedAlone("take(" + odd + ")", Due.MISSING, PATHS, net -> net.take(odd));
        }
        DUE.same("take(1) of two", PATHS.get().take(1), 1);
        DUE.same("take(0) of two", PATHS.get().take(0), 1);
    }

    private static void takeAnew() {
        DUE.promise(6, "is taken out (those behind it are numbered anew): how many there are");
        Supplier<PartedNet> maker = net("nodes 5;all;shape path 1;part 0 1;part 0 2;part 0 3;part 0 4;");
        int[][] due = {{1, 2, 3}, {0, 2, 3}, {0, 1, 3}, {0, 1, 2}};
        for (int part = 0; part < 4; part++) {
            PartedNet net = maker.get();
            DUE.same("take(" + part + ")", net.take(part), 3);
            for (int i = 0; i < 3; i++) {
                DUE.same("then part(" + i + ", 0)", net.part(i, 0), due[part][i]);
                DUE.same("then line()", net.line(0, due[part][i] + 1, 2), i);
            }
            DUE.same("the line that is left", net.line(0, part + 1, 2), NONE);
            DUE.same("the parts at its node", net.node(part + 1, 2), 0);
            DUE.same("the parts at the other node", net.node(0, 2), 3);
            DUE.refused("part(3, 0)", java.util.NoSuchElementException.class, () -> net.part(3, 0));
            DUE.same("put() again comes last", put(net, 0, part + 1), 4);
            DUE.same("line()", net.line(0, part + 1, 2), 3);
        }
        PartedNet last = Due.told("nodes 3;all;part 0 1 2;");
        DUE.same("the only one", last.take(0), 0);
        DUE.same("all is left", last.left(), 7);
    }

    private static void exchangeNumbers() {
        DUE.promise(7, "no such part; both parts are one; k is looked at last");
        for (int part : new int[] {-1, 2, -2, Integer.MIN_VALUE, Integer.MAX_VALUE}) {
            DUE.refusedAlone("exchange(" + part + ", 0, 0)", Due.MISSING, PATHS, net -> net.exchange(part, 0, 0));
            DUE.refusedAlone("exchange(1, " + part + ", 0)", Due.MISSING, PATHS, net -> net.exchange(1, part, 0));
            DUE.refusedAlone("exchange() of one that is not, twice", Due.MISSING, PATHS, net -> net.exchange(part, part, 0));
        }
        DUE.refusedAlone("exchange(0, 0, 0)", Due.UNFIT, PATHS, net -> net.exchange(0, 0, 0));
        DUE.refusedAlone("exchange(1, 1, 99)", Due.UNFIT, PATHS, net -> net.exchange(1, 1, 99));
        DUE.refusedAlone("exchange(1, 1, -1)", Due.UNFIT, PATHS, net -> net.exchange(1, 1, -1));
        DUE.refusedAlone("exchange(2, 0, 99)", Due.MISSING, PATHS, net -> net.exchange(2, 0, 99));
        DUE.refusedAlone("exchange(0, 1, -1)", Due.MISSING, PATHS, net -> net.exchange(0, 1, -1));
        DUE.refusedAlone("exchange(0, 1, 5) of five", Due.MISSING, PATHS, net -> net.exchange(0, 1, 5));
        for (int odd : ODD) {
            DUE.refusedAlone("exchange(0, 1, " + odd + ")", Due.MISSING, PATHS, net -> net.exchange(0, 1, odd));
        }
    }

    private static void exchangeSides() {
        DUE.promise(7, "in order by the one that has the least line; it stands for the first one, the other for the second");
        int[][] due = {{0, 1, 4}, {0, 1, 5}, {0, 2, 3}, {0, 2, 5}, {0, 4, 5}};
        for (int k = 0; k < 5; k++) {
            for (int one = 0; one < 2; one++) {
                PartedNet net = PATHS.get();
                DUE.same("exchange(" + one + ", " + (1 - one) + ", " + k + ")", net.exchange(one, 1 - one, k), 5);
                long lines = 0;
                for (int i = 0; i < 3; i++) {
                    DUE.same("part(" + one + ", " + i + ")", net.part(one, i), due[k][i]);
                    lines |= 1L << due[k][i];
                }
                for (int line = 0; line < 6; line++) {
                    int part = (lines >> line & 1) == 1 ? one : 1 - one;
                    DUE.same("the part of line " + line, net.line(line < 3 ? 0 : line < 5 ? 1 : 2,
                            line < 3 ? line + 1 : line < 5 ? line - 1 : 3, 2), part);
                }
                DUE.same("none comes, none goes", net.told(4), 2);
                DUE.same("told(8)", net.told(8), 3);
            }
        }
        DUE.promise(7, "the other parts stay as they are numbered");
        PartedNet net = Due.told("nodes 6;all;shape star 2;part 0 1 2;part 5 4 3;part 0 3 4;part 5 1 2;");
        long ahead = net.part(1, 0) * 100 + net.part(3, 0);
        DUE.same("exchange(2, 0, 0)", net.exchange(2, 0, 0), 2);
        DUE.same("part(1, 0), part(3, 0)", net.part(1, 0) * 100 + net.part(3, 0), ahead);
        DUE.same("part(2, 1)", net.part(2, 1), 2);
        DUE.same("part(0, 0)", net.part(0, 0), 1);
    }

    private static void exchangeNone() {
        DUE.promise(7, "no such exchange: couples of two other parts (not these two)");
        DUE.refusedAlone("triangles that are apart", Due.MISSING, net("nodes 6;all;part 0 1 2;part 3 4 5;"),
                net -> net.exchange(0, 1, 0));
        DUE.refusedAlone("paths of one line", Due.MISSING, net("nodes 3;all;shape path 1;part 0 1;part 0 2;"),
                net -> net.exchange(0, 1, 0));
        PartedNet one = Due.told("nodes 4;all;shape path 2;part 0 1 2;part 2 3 0;");
        DUE.same("a ring of four: the one that there is", one.exchange(0, 1, 0), 1);
        DUE.same("and back", one.exchange(0, 1, 0), 1);
        DUE.same("as it was", one.part(0, 1), 3);
    }

    private static void finishNoneLeft() {
        DUE.promise(8, "how many parts come (0 if none is left)");
        PartedNet net = Due.told("nodes 3;all;part 0 1 2;");
        DUE.same("finish()", net.finish(), 0);
        DUE.same("an act all the same", net.told(8), 2);
        DUE.same("told(4)", net.told(4), 1);
        DUE.same("a network without lines", Due.told("nodes 2;").finish(), 0);
    }

    private static void finishWithout() {
        DUE.promise(8, "NONE, doing nothing: it ends without");
        DUE.changesNothing("no triangle of two nodes", NONE, net("nodes 2;all;"), PartedNet::finish);
        DUE.changesNothing("a dead end", NONE, net("nodes 4;all;"), PartedNet::finish);
        DUE.changesNothing("with a part that is put in", NONE, net("nodes 5;all;part 0 1 2;"), PartedNet::finish);
        DUE.changesNothing("cut off", NONE, net("nodes 11;all;shape path 4;"), PartedNet::finish);
    }

    private static void finishAtTheLastStep() {
        DUE.promise(8, "a 20,001st step is not made");
        PartedNet last = Due.told(FIRST_AT_20000);
        DUE.same("first come to with step 20,000", last.finish(), 9);
        DUE.same("none is left", last.left(), 0);
        PartedNet searched = Due.told(FIRST_AT_20000);
        DUE.same("search(0)", searched.search(0), 1);
        DUE.same("search(1)", searched.search(1), 20000);
        DUE.same("finish() behind it", searched.finish(), 9);
        DUE.same("the same parts", searched.print(), last.print());
        DUE.changesNothing("first come to with step 20,001", NONE, net(FIRST_AT_20001), PartedNet::finish);
        DUE.changesNothing("and searched", 0, net(FIRST_AT_20001), net -> net.search(0));
    }

    private static void finishAsItWas() {
        DUE.promise(8, "what a search comes to first is put in, as it was, behind what there is");
        PartedNet net = Due.told("nodes 5;all;shape path 1;part 3 4;part 0 2;");
        DUE.same("finish()", net.finish(), 8);
        int[] due = {9, 1, 0, 2, 3, 4, 5, 6, 7, 8};
        for (int part = 0; part < due.length; part++) {
            DUE.same("part(" + part + ", 0)", net.part(part, 0), due[part]);
        }
        PartedNet paths = Due.told("nodes 4;all;shape path 3;");
        DUE.same("the first part in order comes first", paths.partAt(0), 1L | 1L << 1 | 1L << 4);
        DUE.same("finish()", paths.finish(), 2);
        DUE.same("print()", paths.print(), 31L * 19 + 44);
        DUE.same("one act", paths.told(8), 2);
        DUE.same("undo() takes all of it back", paths.undo(), 1);
        DUE.same("told(4)", paths.told(4), 0);
    }

    private static void developRefused() {
        DUE.promise(9, "IllegalStateException: they are not good (there is none; nodes are fewer than 3)");
        DUE.refusedAlone("no base", Due.UNTIMELY, net("nodes 7;all;part 0 1 2;"), PartedNet::develop);
        DUE.refusedAlone("no base on three nodes", Due.UNTIMELY, PartedNet::new, PartedNet::develop);
        DUE.refusedAlone("no base on two nodes", Due.UNTIMELY, net("nodes 2;all;"), PartedNet::develop);
        DUE.refusedAlone("two nodes", Due.UNTIMELY, net("nodes 2;shape path 1;base 0 1;"), PartedNet::develop);
        DUE.refusedAlone("two nodes, difference 0", Due.UNTIMELY, net("nodes 2;shape path 1;base 0 2;"), PartedNet::develop);
        DUE.refusedAlone("a difference without cover", Due.UNTIMELY, net("nodes 9;all;base 0 1 3;part 0 1 2;"),
                PartedNet::develop);
        DUE.refusedAlone("a difference with cover 2", Due.UNTIMELY, net("nodes 7;base 0 1 3;base 0 1 3;"),
                PartedNet::develop);
        DUE.refusedAlone("the difference n by 2 with cover 1", Due.UNTIMELY, net("nodes 6;base 0 1 3;"), PartedNet::develop);
        DUE.refusedAlone("difference 0", Due.UNTIMELY, net("nodes 3;shape path 2;base 0 1 4;"), PartedNet::develop);
        DUE.same("three nodes", Due.told("nodes 3;shape path 1;base 0 1;").develop(), 3);
        DUE.same("four nodes", Due.told("nodes 4;shape path 1;base 1 0;").develop(), 4);
    }

    private static void developNodeAgain() {
        DUE.promise(9, "they are not good: a base has a node again modulo n");
        DUE.refusedAlone("neighbours", Due.UNTIMELY, net("nodes 7;base 0 1 7;"), PartedNet::develop);
        DUE.refusedAlone("a path's ends, all differences with cover 1", Due.UNTIMELY,
                net("nodes 7;shape path 3;base 0 1 3 7;"), PartedNet::develop);
        DUE.refusedAlone("even n", Due.UNTIMELY, net("nodes 8;shape path 3;base 0 1 3 8;"), PartedNet::develop);
        DUE.refusedAlone("within a path of four", Due.UNTIMELY, net("nodes 9;shape path 4;base 0 1 3 9 13;"),
                PartedNet::develop);
        DUE.same("no node again", Due.told("nodes 7;shape path 3;base 0 1 3 6;").develop(), 7);
    }

    private static void developRound() {
        DUE.promise(9, "base by base, shift by shift (0 to n less 1), each and the shift modulo n");
        PartedNet net = Due.told("nodes 9;shape path 2;base 30 1 8;base 17 20 7;");
        // 30, 1, 8 are 3, 1, 8 round 9 nodes: 2 and 2 are alike.
        DUE.refused("develop()", IllegalStateException.class, net::develop);
        PartedNet good = Due.told("nodes 9;shape path 2;base 30 2 0;base 17 20 7;");
        DUE.same("develop()", good.develop(), 18);
        int[][] bases = {{30, 2, 0}, {17, 20, 7}};
        for (int part = 0; part < 18; part++) {
            int[] base = bases[part / 9];
            int shift = part % 9;
            for (int i = 0; i < 2; i++) {
                DUE.same("the part of a line", good.line((base[i] + shift) % 9, (base[i + 1] + shift) % 9, 2), part);
            }
        }
        DUE.same("the bases stay as they are told", good.base(0, 0), 30);
        DUE.same("told(6)", good.told(6), 2);
        DUE.same("none is left", good.left(), 0);
        PartedNet most = Due.told("nodes 9;shape star 1;base 0 1;base 0 2;base 0 3;base 0 4;");
        DUE.same("four bases", most.develop(), 36);
        DUE.same("the last shift", most.line(8, 3, 2), 35);
        PartedNet eleven = Due.told("nodes 11;shape ring 5;base 0 1 10 4 7;");
        DUE.same("eleven nodes", eleven.develop(), 11);
        DUE.same("all lines", eleven.told(1), 55);
    }

    private static void developAcross() {
        DUE.promise(9, "the network becomes all lines whose difference has cover 1");
        PartedNet net = Due.told("nodes 8;line 0 4;base 0 1 3;");
        DUE.same("develop()", net.develop(), 8);
        DUE.same("told(1)", net.told(1), 24);
        for (int node = 0; node < 4; node++) {
            DUE.same("a line across", net.line(node, node + 4, 1), 0);
        }
        DUE.refused("put() of one across", IllegalStateException.class, () -> put(net, 0, 4, 1));
    }

    private static void developAnew() {
        DUE.promise(9, "all that was put in is taken out");
        PartedNet net = Due.told("nodes 7;all;base 0 1 3;part 2 4 6;part 0 1 2;");
        DUE.same("develop()", net.develop(), 7);
        DUE.same("told(4)", net.told(4), 7);
        DUE.same("line(0, 1, 2)", net.line(0, 1, 2), 0);
        DUE.same("told(8)", net.told(8), 2);
        DUE.same("develop() again", net.develop(), 7);
        DUE.same("told(8)", net.told(8), 3);
    }

    private static void eachActBack() {
        DUE.promise(10, "acts: text() without a fault, put(), take(), exchange(), finish(), develop()");
        PartedNet net = new PartedNet();
        String[] held = new String[8];
        for (int acts = 0; acts < 7; acts++) {
            held[acts] = Due.held(net);
            switch (acts) {
                case 0 -> Due.tell(net, "nodes 7;all;base 0 1 3;base 0 1 3;");
                case 1 -> Due.tell(net, "nodes 7;all;less 0 6;shape path 2;base 0 1 3;base 4 5 8;");
                case 2 -> put(net, 0, 1, 2);
                case 3 -> put(net, 2, 3, 0);
                case 4 -> net.exchange(1, 0, 0);
                case 5 -> net.take(0);
                default -> net.finish();
            }
            DUE.same("told(8)", net.told(8), acts + 1);
            DUE.holds("an act changes what is held", !held[acts].equals(Due.held(net)));
        }
        for (int acts = 6; acts >= 0; acts--) {
            DUE.same("undo()", net.undo(), acts);
            DUE.sameText("what is held then", Due.held(net), held[acts]);
        }
        PartedNet round = Due.told("nodes 7;line 0 5;base 0 1 3;");
        String ahead = Due.held(round);
        DUE.same("develop()", round.develop(), 7);
        DUE.same("undo()", round.undo(), 1);
        DUE.sameText("what is held then", Due.held(round), ahead);
    }

    private static void noActs() {
        DUE.promise(10, "NONE: none could");
        DUE.changesNothing("undo() at first", NONE, PartedNet::new, PartedNet::undo);
        Supplier<PartedNet> back = () -> {
            PartedNet net = Due.told("nodes 5;");
            net.undo();
            return net;
        };
        DUE.changesNothing("undo() of all that was taken back", NONE, back, PartedNet::undo);
        DUE.promise(10, "no acts: a text with a fault, finish() that does nothing, what is refused, what is asked");
        PartedNet net = Due.told("nodes 4;all;");
        DUE.same("a fault", Due.tell(net, "nodes 4;all"), -9);
        DUE.same("finish()", net.finish(), NONE);
        DUE.refused("put()", IllegalArgumentException.class, () -> put(net, 0));
        DUE.refused("take()", java.util.NoSuchElementException.class, () -> net.take(0));
        DUE.refused("develop()", IllegalStateException.class, net::develop);
        DUE.same("search()", net.search(0) + net.parts(0) + net.classes(), 4);
        DUE.same("told(8)", net.told(8), 1);
        DUE.same("undo()", net.undo(), 0);
        DUE.same("told(0)", net.told(0), 3);
    }

    private static void eightActs() {
        DUE.promise(10, "the latest one back that is not yet, of the latest 8");
        for (int acts = 7; acts <= 19; acts++) {
            PartedNet net = Due.told("nodes 7;all;shape path 1;");
            for (int i = 1; i < acts; i++) {
                int a = i <= 6 ? 0 : i <= 11 ? 1 : i <= 15 ? 2 : 3;
                int b = i <= 6 ? i : i <= 11 ? i - 5 : i <= 15 ? i - 9 : i - 12;
                DUE.same("put()", put(net, a, b), i);
                DUE.same("told(8)", net.told(8), Math.min(8, i + 1));
            }
            int most = Math.min(8, acts);
            for (int back = 1; back <= most; back++) {
                DUE.same("undo() " + back + " of " + acts, net.undo(), most - back);
                DUE.same("told(8)", net.told(8), most - back);
                DUE.same("told(4)", net.told(4), Math.max(0, acts - 1 - back));
            }
            DUE.same("undo() then", net.undo(), NONE);
            DUE.same("told(4) stays", net.told(4), Math.max(0, acts - 1 - most));
        }
    }

    private static void actsBehindUndo() {
        DUE.promise(10, "what was taken back makes room again, and is forgotten with the next act");
        PartedNet net = Due.told("nodes 7;all;shape path 1;");
        for (int i = 1; i <= 6; i++) {
            put(net, 0, i);
        }
        put(net, 1, 2);
        DUE.same("told(8)", net.told(8), 8);
        DUE.same("undo()", net.undo(), 7);
        DUE.same("undo()", net.undo(), 6);
        put(net, 1, 3);
        DUE.same("told(8)", net.told(8), 7);
        put(net, 1, 4);
        DUE.same("told(8)", net.told(8), 8);
        for (int back = 7; back >= 1; back--) {
            DUE.same("undo()", net.undo(), back);
        }
        DUE.same("told(0)", net.told(0), 7);
        DUE.same("told(4)", net.told(4), 0);
        DUE.same("undo() of the text", net.undo(), 0);
        DUE.same("told(0)", net.told(0), 3);
    }

    private static void undoLeaves() {
        DUE.promise(10, "an act is taken back; the tape, the fault's place and the refusals are none of it");
        PartedNet net = Due.told("nodes 5;all;");
        DUE.same("a fault", Due.tell(net, "nodes 5;x"), -9);
        Due.feed(net, "nodes 6;all;");
        DUE.refused("take()", java.util.NoSuchElementException.class, () -> net.take(0));
        DUE.same("undo()", net.undo(), 0);
        DUE.same("fault()", net.fault(), 8);
        DUE.same("status(0)", net.status(0), 1);
        DUE.same("told(7)", net.told(7), 20);
        DUE.same("text(12)", net.text(12), 15);
    }
}
