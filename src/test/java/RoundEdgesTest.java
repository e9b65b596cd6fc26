import java.util.function.Supplier;

/** Promises 22 to 26: each sentence, of theirs and of the terms, that names a boundary case of bases, print, status. */
public final class RoundEdgesTest {
    private static final Due DUE = new Due();
    private static final int NONE = PartedNet.NONE;
    private static final int[] ODD = {-2, Integer.MIN_VALUE, Integer.MAX_VALUE};
    private static final Supplier<PartedNet> TRIANGLE = () -> Due.told("nodes 7;all;base 0 1 3;part 0 1 3;");
    private static final String ALL_OF_31 = "nodes 2;shape ring 5;base 0 1 15 13 8;base 0 11 5 12 3;base 0 12 30 26 16;";

    public static void main(String[] args) {
        coverNumbers();
        coverRound();
        coverModulo();
        coverOfShapes();
        coverOfBases();
        goodNumbers();
        goodLeast();
        goodAcross();
        goodZero();
        goodWithoutBases();
        goodNodeAgain();
        baseNumbers();
        printFromZero();
        statusNumbers();
        statusCounts();
        notRefused();
        lastCalls();
        DUE.end();
    }

    private static void coverNumbers() {
        DUE.promise(22, "round n (3 to 31), a difference d (1 to n by 2, cut); IllegalArgumentException: n, d");
        for (int n = 3; n <= 31; n++) {
            int round = n;
            DUE.same("cover(" + n + ", 1)", TRIANGLE.get().cover(n, 1), n == 3 ? 2 : n == 4 ? 2 : 1);
            DUE.same("cover(" + n + ", n by 2)", TRIANGLE.get().cover(n, n / 2), due(n));
            DUE.refusedAlone("cover(" + n + ", 0)", Due.UNFIT, TRIANGLE, net -> net.cover(round, 0));
            DUE.refusedAlone("cover(" + n + ", n by 2 and 1)", Due.UNFIT, TRIANGLE, net -> net.cover(round, round / 2 + 1));
        }
        DUE.refusedAlone("cover(2, 1)", Due.UNFIT, TRIANGLE, net -> net.cover(2, 1));
        DUE.refusedAlone("cover(32, 1)", Due.UNFIT, TRIANGLE, net -> net.cover(32, 1));
        DUE.refusedAlone("cover(1, 0)", Due.UNFIT, TRIANGLE, net -> net.cover(1, 0));
        DUE.refusedAlone("cover(0, 0)", Due.UNFIT, TRIANGLE, net -> net.cover(0, 0));
        DUE.refusedAlone("cover(2, 2)", Due.UNFIT, TRIANGLE, net -> net.cover(2, 2));
        DUE.refusedAlone("cover(-7, 1)", Due.UNFIT, TRIANGLE, net -> net.cover(-7, 1));
        DUE.refusedAlone("cover(7, -1)", Due.UNFIT, TRIANGLE, net -> net.cover(7, -1));
        for (int odd : ODD) {
            DUE.refusedAlone("cover(" + odd + ", 1)", Due.UNFIT, TRIANGLE, net -> net.cover(odd, 1));
            DUE.refusedAlone("cover(7, " + odd + ")", Due.UNFIT, TRIANGLE, net -> net.cover(7, odd));
            DUE.refusedAlone("cover(" + odd + ", " + odd + ")", Due.UNFIT, TRIANGLE, net -> net.cover(odd, odd));
        }
    }

    /** How many of the differences 1, 2, 3 of nodes 0, 1, 3 become n by 2 (cut) round n nodes. */
    private static int due(int n) {
        int count = 0;
        for (int d = 1; d <= 3; d++) {
            count += Math.min(d % n, (n - d % n) % n) == n / 2 ? 1 : 0;
        }
        return count;
    }

    private static void coverRound() {
        DUE.promise(22, "the lesser one of (a less b) modulo n and (b less a) modulo n");
        for (int n = 3; n <= 31; n++) {
            for (int far = 1; far < Math.min(n, 31); far++) {
                PartedNet net = Due.told("nodes 2;shape path 1;base 0 " + far + ";");
                PartedNet turned = Due.told("nodes 2;shape path 1;base " + far + " 0;");
                int due = Math.min(far, n - far);
                for (int d = 1; d <= n / 2; d++) {
                    DUE.same("0 and " + far + ", cover(" + n + ", " + d + ")", net.cover(n, d), d == due ? 1 : 0);
                    DUE.same(far + " and 0, cover(" + n + ", " + d + ")", turned.cover(n, d), d == due ? 1 : 0);
                }
            }
        }
    }

    private static void coverModulo() {
        DUE.promise(22, "bases (their nodes modulo n)");
        PartedNet net = Due.told("nodes 2;shape path 3;base 30 2 17 9;");
        // Round 3: 0, 2, 2, 0; round 4: 2, 2, 1, 1; round 5: 0, 2, 2, 4; round 28: 2, 2, 17, 9.
        DUE.same("cover(3, 1)", net.cover(3, 1), 2);
        DUE.same("cover(4, 1)", net.cover(4, 1), 1);
        DUE.same("cover(4, 2)", net.cover(4, 2), 0);
        DUE.same("cover(5, 1)", net.cover(5, 1), 0);
        DUE.same("cover(5, 2)", net.cover(5, 2), 2);
        DUE.same("cover(28, 13)", net.cover(28, 13), 1);
        DUE.same("cover(28, 8)", net.cover(28, 8), 1);
        DUE.same("cover(31, 3)", net.cover(31, 3), 1);
        DUE.same("cover(31, 15)", net.cover(31, 15), 1);
        DUE.same("cover(30, 2)", net.cover(30, 2), 1);
        DUE.same("cover(30, 15)", net.cover(30, 15), 1);
    }

    private static void covers(String text, int n, int... due) {
        PartedNet net = Due.told(text);
        for (int d = 1; d <= n / 2; d++) {
            DUE.same(text + " cover(" + n + ", " + d + ")", net.cover(n, d), due[d - 1]);
        }
    }

    private static void coverOfShapes() {
        DUE.promise(22, "lines as in the shape: a ring's last node with its first, a star's first one with all others");
        covers("nodes 2;shape path 3;base 0 1 3 7;", 14, 1, 1, 0, 1, 0, 0, 0);
        covers("nodes 2;shape ring 4;base 0 1 3 7;", 14, 1, 1, 0, 1, 0, 0, 1);
        covers("nodes 2;shape star 3;base 0 1 3 7;", 14, 1, 0, 1, 0, 0, 0, 1);
        covers("nodes 2;base 0 1 3;", 14, 1, 1, 1, 0, 0, 0, 0);
        covers("nodes 2;shape path 4;base 0 1 3 7 12;", 14, 1, 1, 0, 1, 1, 0, 0);
        covers("nodes 2;shape ring 5;base 0 1 3 7 12;", 14, 1, 2, 0, 1, 1, 0, 0);
        covers("nodes 2;shape star 4;base 12 0 1 3 7;", 14, 0, 1, 1, 0, 2, 0, 0);
    }

    private static void coverOfBases() {
        DUE.promise(22, "how many lines of all bases have it");
        covers("nodes 2;", 7, 0, 0, 0);
        covers("nodes 2;base 0 1 3;base 0 1 3;base 1 2 4;base 30 29 27;", 8, 4, 4, 4, 0);
        covers("nodes 2;shape star 4;base 0 1 6 8 13;base 0 1 6 8 13;base 0 1 6 8 13;base 0 1 6 8 13;", 7, 16, 0, 0);
        covers("nodes 2;base 0 7 14;", 7, 0, 0, 0);
    }

    private static void goodNumbers() {
        DUE.promise(23, "round n (3 to 31) nodes");
        DUE.refusedAlone("good(2)", Due.UNFIT, TRIANGLE, net -> net.good(2));
        DUE.refusedAlone("good(32)", Due.UNFIT, TRIANGLE, net -> net.good(32));
        DUE.refusedAlone("good(0)", Due.UNFIT, TRIANGLE, net -> net.good(0));
        DUE.refusedAlone("good(-7)", Due.UNFIT, TRIANGLE, net -> net.good(-7));
        for (int odd : ODD) {
            DUE.refusedAlone("good(" + odd + ")", Due.UNFIT, TRIANGLE, net -> net.good(odd));
        }
        DUE.same("good(3)", Due.told("nodes 2;shape path 1;base 0 1;").good(3), NONE);
        DUE.same("good(31)", Due.told(ALL_OF_31).good(31), NONE);
    }

    private static void goodLeast() {
        DUE.promise(23, "NONE: bases are good; else the least difference that is not as it must be");
        int[] due = {0, 1, 2, 3, NONE, NONE, 4, 4, 4, 4, 4, 4, 4, 4, 4, 4, 4, 4, 4, 4, 4, 4, 4, 4, 4, 4, 4, 4, 4};
        for (int n = 3; n <= 31; n++) {
            DUE.same("good(" + n + ")", TRIANGLE.get().good(n), due[n - 3]);
        }
        DUE.same("the last difference without cover", Due.told(ALL_OF_31.replace("0 12 30 26 16", "0 12 30 26 17")).good(31), 9);
        DUE.same("the last difference alone", Due.told("nodes 2;shape path 1;base 0 1;base 0 2;base 0 3;").good(9), 4);
        DUE.same("a difference too often", Due.told("nodes 2;shape path 1;base 0 1;base 0 2;base 1 3;base 0 3;").good(7), 2);
        DUE.same("the last difference too often", Due.told("nodes 2;shape path 1;base 0 1;base 0 2;base 0 4;base 0 3;").good(7), 3);
    }

    private static void goodAcross() {
        DUE.promise(23, "that of n by 2 itself (n even) cover 0");
        DUE.same("without it", Due.told("nodes 2;shape path 1;base 0 1;base 0 2;base 0 3;").good(8), NONE);
        DUE.same("with it", Due.told("nodes 2;shape path 1;base 0 1;base 0 2;base 0 3;base 0 4;").good(8), 4);
        DUE.same("four nodes without it", Due.told("nodes 2;shape path 1;base 0 1;").good(4), NONE);
        DUE.same("four nodes with it", Due.told("nodes 2;shape path 1;base 0 1;base 1 3;").good(4), 2);
        DUE.same("odd n: cover 1 all the same", Due.told("nodes 2;shape path 1;base 0 1;base 0 2;base 0 3;base 0 4;").good(9), NONE);
        DUE.same("26 nodes", Due.told("nodes 2;base 0 1 6;base 0 2 10;base 0 3 12;base 0 4 11;").good(26), NONE);
        DUE.same("25 nodes", Due.told("nodes 2;base 0 1 6;base 0 2 10;base 0 3 12;base 0 4 11;").good(25), NONE);
    }

    private static void goodZero() {
        DUE.promise(23, "and none has difference 0 (0, too)");
        DUE.same("0 alone is not as it must be", Due.told("nodes 2;shape path 1;base 0 1;base 2 5;").good(3), 0);
        DUE.same("0 ahead of others", Due.told("nodes 2;shape path 1;base 0 14;").good(7), 0);
        DUE.same("no difference 0", Due.told("nodes 2;shape path 1;base 0 15;").good(3), 0);
        DUE.same("31 and no node again", Due.told("nodes 2;shape path 1;base 0 30;").good(31), 2);
    }

    private static void goodWithoutBases() {
        DUE.promise(23, "without bases the least difference is 1");
        for (int n = 3; n <= 31; n++) {
            DUE.same("good(" + n + ")", new PartedNet().good(n), 1);
        }
    }

    private static void goodNodeAgain() {
        DUE.promise(23, "good by the differences of lines alone");
        DUE.same("a path's ends are one round 7", Due.told("nodes 7;shape path 3;base 0 1 3 7;").good(7), NONE);
        DUE.same("a star's leaves are one round 7", Due.told("nodes 7;shape star 3;base 0 1 8 3;").good(7), 1);
    }

    private static void baseNumbers() {
        DUE.promise(24, "the i-th node of a base; NONE: it has not so many");
        String[] texts = {"nodes 2;shape path 1;base 30 0;base 0 30;", "nodes 2;base 5 30 7;base 1 2 3;",
            "nodes 2;shape ring 4;base 9 8 7 6;base 1 2 3 4;", "nodes 2;shape star 4;base 9 8 7 6 30;base 1 2 3 4 5;"};
        int[][] due = {{30, 0}, {5, 30, 7}, {9, 8, 7, 6}, {9, 8, 7, 6, 30}};
        for (int k = 0; k < texts.length; k++) {
            PartedNet net = Due.told(texts[k]);
            for (int i = 0; i < 8; i++) {
                DUE.same(texts[k] + " base(0, " + i + ")", net.base(0, i), i < due[k].length ? due[k][i] : NONE);
            }
            DUE.same("the last base's last node but none", net.base(1, due[k].length), NONE);
        }
        Supplier<PartedNet> four = () -> Due.told("nodes 3;all;shape path 1;base 0 1;base 2 3;base 4 5;base 6 7;part 0 1;");
        for (int odd : new int[] {-1, -2, 2, Integer.MIN_VALUE, Integer.MAX_VALUE}) {
            DUE.changesNothing("base(3, " + odd + ")", NONE, four, net -> net.base(3, odd));
            DUE.changesNothing("base(0, " + odd + ")", NONE, four, net -> net.base(0, odd));
        }
        DUE.same("the last one", four.get().base(3, 1), 7);
        DUE.promise(24, "NoSuchElementException: no such base");
        DUE.refusedAlone("base(0, 0) of none", Due.MISSING, PartedNet::new, net -> net.base(0, 0));
        DUE.refusedAlone("base(4, 0) of four", Due.MISSING, four, net -> net.base(4, 0));
        DUE.refusedAlone("base(4, 9) of four", Due.MISSING, four, net -> net.base(4, 9));
        DUE.refusedAlone("base(-1, 0)", Due.MISSING, four, net -> net.base(-1, 0));
        DUE.refusedAlone("base(-1, -1)", Due.MISSING, four, net -> net.base(-1, -1));
        for (int odd : ODD) {
            DUE.refusedAlone("base(" + odd + ", 0)", Due.MISSING, four, net -> net.base(odd, 0));
        }
        PartedNet anew = four.get();
        Due.tell(anew, "nodes 3;");
        DUE.refused("base(0, 0) of a text without", java.util.NoSuchElementException.class, () -> anew.base(0, 0));
    }

    private static void printFromZero() {
        DUE.promise(25, "from 0 on: 31 times what there is, and lines that are left; of part by part 31 times, and its lines");
        DUE.same("at first", new PartedNet().print(), 7);
        DUE.same("nothing at all", Due.told("nodes 2;").print(), 0);
        DUE.same("none left, one part", Due.told("nodes 3;all;part 0 1 2;").print(), 7);
        DUE.same("three left, one part", Due.told("nodes 4;all;part 0 1 2;").print(), 31L * 0b110100 + 0b1011);
        PartedNet one = Due.told("nodes 3;all;shape path 1;part 0 1;part 0 2;");
        PartedNet other = Due.told("nodes 3;all;shape path 1;part 0 2;part 0 1;");
        DUE.same("two parts", one.print(), (31L * 4 + 1) * 31 + 2);
        DUE.same("the other way round", other.print(), (31L * 4 + 2) * 31 + 1);
        PartedNet full = Due.told("nodes 11;all;shape path 1;");
        long due = (1L << 55) - 1;
        DUE.same("all lines left", full.print(), due);
        full.finish();
        due = 0;
        for (int line = 0; line < 55; line++) {
            due = 31 * due + (1L << line);
        }
        DUE.same("55 parts, wrapped around", full.print(), due);
    }

    private static void statusNumbers() {
        DUE.promise(26, "0, 1, 2; NONE for others");
        PartedNet net = new PartedNet();
        for (int what = 0; what < 3; what++) {
            DUE.same("status(" + what + ")", net.status(what), 0);
        }
        for (int what : new int[] {-1, 3, -2, Integer.MIN_VALUE, Integer.MAX_VALUE}) {
            DUE.changesNothing("status(" + what + ")", NONE, TRIANGLE, x -> x.status(what));
        }
    }

    private static void statusCounts() {
        DUE.promise(26, "how many calls were refused");
        PartedNet net = new PartedNet();
        for (int i = 1; i <= 100; i++) {
            DUE.refused("take(0)", java.util.NoSuchElementException.class, () -> net.take(0));
            DUE.same("status(0)", net.status(0), i);
        }
        DUE.same("status(1)", net.status(1), 0);
        DUE.refused("told(9)", IllegalArgumentException.class, () -> net.told(9));
        DUE.refused("develop()", IllegalStateException.class, net::develop);
        DUE.refused("develop()", IllegalStateException.class, net::develop);
        DUE.same("status(0)", net.status(0), 100);
        DUE.same("status(1)", net.status(1), 1);
        DUE.same("status(2)", net.status(2), 2);
        DUE.same("a text", Due.tell(net, "nodes 4;all;"), 6);
        DUE.same("undo()", net.undo(), 0);
        DUE.same("status(0) stays", net.status(0), 100);
        DUE.same("status(1) stays", net.status(1), 1);
        DUE.same("status(2) stays", net.status(2), 2);
    }

    private static void notRefused() {
        DUE.promise(26, "what answers NONE, or a fault, is not refused");
        PartedNet net = Due.told("nodes 4;all;base 0 1 3;part 0 1 2;");
        for (int i = 0; i < 15; i++) {
            net.feed(0, 0, 0, 0, 0);
        }
        DUE.same("feed()", net.feed(0, 0, 0, 0, 0), NONE);
        DUE.same("text(300)", net.text(300), -9);
        DUE.same("finish()", net.finish(), NONE);
        DUE.same("part(0, 3)", net.part(0, 3), NONE);
        DUE.same("base(0, 3)", net.base(0, 3), NONE);
        DUE.same("line(0, 3, 2)", net.line(0, 3, 2), NONE);
        DUE.same("status(3)", net.status(3), NONE);
        DUE.same("undo()", net.undo(), 0);
        DUE.same("undo()", net.undo(), NONE);
        for (int what = 0; what < 3; what++) {
            DUE.same("status(" + what + ")", net.status(what), 0);
        }
    }

    private static void lastCalls() {
        DUE.promise(26, "an object is used for at most 512 calls: the last one of them");
        PartedNet net = new PartedNet();
        for (int call = 1; call < 512; call++) {
            DUE.refused("take(0)", java.util.NoSuchElementException.class, () -> net.take(0));
        }
        DUE.same("the 512th call, status(0)", net.status(0), 511);
        DUE.promise(10, "an object is used for at most 512 calls: the last one of them");
        PartedNet acts = new PartedNet();
        for (int call = 1; call < 511; call += 2) {
            DUE.same("put()", acts.put(0, 1, 2, NONE, NONE), 1);
            DUE.same("take(0)", acts.take(0), 0);
        }
        DUE.same("the 511th call, undo()", acts.undo(), 7);
        DUE.same("the 512th call, undo()", acts.undo(), 6);
    }
}
