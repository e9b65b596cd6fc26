/** Promises 7, 8 and 16 to 21: lists of parts, tests, the search, exchanges and classes. */
public final class SearchTest {
    private static final Due DUE = new Due();

    public static void main(String[] args) {
        counts();
        order();
        tests();
        searches();
        cutOff();
        finishes();
        exchanges();
        exchangeDone();
        classes();
        DUE.end();
    }

    private static void counts() {
        counts("triangle", 165);
        counts("path 1", 55);
        counts("path 2", 495);
        counts("path 3", 3960);
        counts("path 4", 27720);
        counts("star 1", 55);
        counts("star 2", 495);
        counts("star 3", 1320);
        counts("star 4", 2310);
        counts("ring 3", 165);
        counts("ring 4", 990);
        counts("ring 5", 5544);
        PartedNet net = Due.told("nodes 4;all;less 0 1;shape path 2;part 0 2 3;");
        DUE.same("parts(0) of a network", net.parts(0), 8);
        DUE.same("parts(1) of what is left", net.parts(1), 2);
        DUE.unfit("parts(2)", () -> net.parts(2));
        DUE.unfit("parts(-1)", () -> net.parts(-1));
        DUE.same("no part on two nodes", Due.told("nodes 2;all;").parts(0), 0);
        DUE.same("no part on four nodes", Due.told("nodes 4;all;shape ring 5;").parts(0), 0);
    }

    private static void counts(String shape, int due) {
        PartedNet net = Due.told("nodes 11;all;shape " + shape + ";");
        DUE.same(shape + " parts(0)", net.parts(0), due);
        DUE.same(shape + " parts(1)", net.parts(1), due);
        long last = net.partAt(due - 1);
        DUE.same(shape + " last part's lines", Long.bitCount(last), net.told(3));
        DUE.missing(shape + " behind the last", () -> net.partAt(due));
    }

    private static void order() {
        PartedNet net = Due.told("nodes 4;all;shape path 2;");
        // Lines: 0 (0,1), 1 (0,2), 2 (0,3), 3 (1,2), 4 (1,3), 5 (2,3).
        long[] due = {3, 5, 9, 17, 6, 10, 34, 20, 36, 24, 40, 48};
        for (int k = 0; k < due.length; k++) {
            DUE.same("partAt(" + k + ")", net.partAt(k), due[k]);
        }
        DUE.missing("partAt(12)", () -> net.partAt(12));
        DUE.missing("partAt(-1)", () -> net.partAt(-1));
        DUE.missing("partAt(MIN)", () -> net.partAt(Integer.MIN_VALUE));
        net.put(0, 1, 2, -1, -1);
        long[] then = {6, 34, 20, 36, 48};
        for (int k = 0; k < then.length; k++) {
            DUE.same("then partAt(" + k + ")", net.partAt(k), then[k]);
        }
        DUE.missing("then partAt(5)", () -> net.partAt(5));
    }

    private static void tests() {
        DUE.same("4 nodes, triangle", Due.told("nodes 4;all;").tests(), 2);
        DUE.same("5 nodes, triangle", Due.told("nodes 5;all;").tests(), 1);
        DUE.same("7 nodes, triangle", Due.told("nodes 7;all;").tests(), 0);
        DUE.same("8 nodes, triangle", Due.told("nodes 8;all;").tests(), 3);
        DUE.same("4 nodes, path 3", Due.told("nodes 4;all;shape path 3;").tests(), 0);
        DUE.same("4 nodes, path 4", Due.told("nodes 4;all;shape path 4;").tests(), 1);
        DUE.same("4 nodes, star 3", Due.told("nodes 4;all;shape star 3;").tests(), 0);
        DUE.same("6 nodes, ring 5", Due.told("nodes 6;all;shape ring 5;").tests(), 2);
        DUE.same("6 nodes, ring 4", Due.told("nodes 6;all;shape ring 4;").tests(), 3);
        DUE.same("of what is left", Due.told("nodes 5;all;shape ring 4;part 0 1 2 3;less 0 4;less 1 4;").tests(), 2);
        DUE.same("of a ring that is left", Due.told("nodes 6;shape ring 4;part 0 2 1 3;line 0 2;line 0 3;line 1 2;"
                + "line 1 3;line 0 4;line 0 5;line 1 4;line 1 5;").tests(), 0);
        DUE.same("none left", Due.told("nodes 5;").tests(), 0);
    }

    private static void found(String text, int ways, int steps, int whole) {
        PartedNet net = Due.told(text);
        String ahead = Due.view(net);
        DUE.same(text + " ways", net.search(0), ways);
        DUE.same(text + " steps", net.search(1), steps);
        DUE.same(text + " whole", net.search(2), whole);
        DUE.holds(text + " nothing stays changed", ahead.equals(Due.view(net)));
    }

    private static void searches() {
        found("nodes 5;", 1, 0, 1);
        found("nodes 2;all;", 0, 0, 1);
        found("nodes 3;all;", 1, 1, 1);
        found("nodes 4;all;shape path 1;", 1, 6, 1);
        found("nodes 4;all;shape star 1;", 1, 6, 1);
        // Line 0 lies in two triangles, which leave a star of three lines without one.
        found("nodes 4;all;", 0, 2, 1);
        // The stars around 0 and around 1 have line 0; each leaves a triangle, without a star.
        found("nodes 4;all;shape star 3;", 0, 2, 1);
        found("nodes 11;all;shape path 1;", 1, 55, 1);
        PartedNet net = Due.told("nodes 7;all;");
        DUE.same("7 nodes ways", net.search(0), 30);
        DUE.same("9 nodes ways", Due.told("nodes 9;all;").search(0), 840);
        Due.tell(net, "nodes 4;all;shape star 3;");
        DUE.same("stars", net.search(0), 0);
        Due.tell(net, "nodes 4;all;shape path 3;");
        DUE.same("paths of the same lines", net.search(0), 6);
        Due.tell(net, "nodes 4;all;shape path 1;");
        DUE.same("paths of one line", net.search(1), 6);
        Due.tell(net, "nodes 5;line 0 1;line 0 2;line 0 3;line 0 4;line 1 2;line 1 3;shape path 3;");
        DUE.same("the same bits on more nodes", net.search(0), Due.told("nodes 5;line 0 1;line 0 2;line 0 3;line 0 4;"
                + "line 1 2;line 1 3;shape path 3;").search(0));
        DUE.unfit("search(3)", () -> net.search(3));
        DUE.unfit("search(-1)", () -> net.search(-1));
    }

    private static void cutOff() {
        PartedNet net = Due.told("nodes 11;all;shape path 4;");
        DUE.same("cut: ways", net.search(0), 0);
        DUE.same("cut: steps", net.search(1), 20000);
        DUE.same("cut: whole", net.search(2), 0);
        DUE.same("cut: finish()", net.finish(), -1);
        DUE.same("finish() that did nothing is no act", net.told(8), 1);
        PartedNet ways = Due.told("nodes 8;all;shape path 2;");
        DUE.same("cut with ways: steps", ways.search(1), 20000);
        DUE.same("cut with ways: whole", ways.search(2), 0);
        DUE.holds("cut with ways: some", ways.search(0) > 0);
        DUE.same("cut with ways: finish()", ways.finish(), 14);
        DUE.same("then: ways", ways.search(0), 1);
        DUE.same("then: steps", ways.search(1), 0);
        DUE.same("then: whole", ways.search(2), 1);
    }

    private static void finishes() {
        PartedNet net = Due.told("nodes 7;all;part 4 5 6;");
        DUE.same("finish()", net.finish(), 6);
        DUE.same("parts", net.told(4), 7);
        DUE.same("left", net.left(), 0);
        DUE.same("its first step holds the least line", net.line(0, 1, 2), 1);
        // 0 can't be with two of 4, 5, 6, so each of them is with one of 1, 2, 3.
        DUE.same("the first step's part", net.line(1, 4, 2), 1);
        DUE.same("the second step's part", net.line(2, 5, 2), 2);
        DUE.same("the third step's part", net.line(3, 6, 2), 3);
        DUE.same("finish() with none left", net.finish(), 0);
        DUE.same("which is an act", net.told(8), 3);
        DUE.same("undo()", net.undo(), 2);
        DUE.same("undo()", net.undo(), 1);
        DUE.same("parts", net.told(4), 1);
        PartedNet plain = Due.told("nodes 7;all;");
        PartedNet searched = Due.told("nodes 7;all;");
        DUE.same("searched ahead", searched.search(0), 30);
        DUE.same("finish()", plain.finish(), 7);
        DUE.same("finish() behind a search", searched.finish(), 7);
        DUE.same("comes to the same", searched.print(), plain.print());
        PartedNet none = Due.told("nodes 4;all;");
        DUE.same("no way", none.finish(), -1);
        DUE.same("no act", none.told(8), 1);
        DUE.same("nothing is put in", none.told(4), 0);
        PartedNet single = Due.told("nodes 11;all;shape path 1;part 0 10;part 9 10;");
        DUE.same("one by one", single.finish(), 53);
        DUE.same("the first step's part", single.line(0, 1, 2), 2);
        DUE.same("the last step's part", single.line(8, 10, 2), 54);
    }

    private static void exchanges() {
        PartedNet net = Due.told("nodes 4;all;shape path 3;part 0 1 2 3;part 1 3 0 2;");
        DUE.same("exchanges(0, 1)", net.exchanges(0, 1), 5);
        DUE.same("exchanges(1, 0)", net.exchanges(1, 0), 5);
        DUE.missing("exchanges(0, 2)", () -> net.exchanges(0, 2));
        DUE.missing("exchanges(-1, 0)", () -> net.exchanges(-1, 0));
        DUE.missing("exchanges(2, 2)", () -> net.exchanges(2, 2));
        DUE.unfit("exchanges(1, 1)", () -> net.exchanges(1, 1));
        DUE.same("triangles with a common node", Due.told("nodes 5;all;part 0 1 2;part 0 3 4;").exchanges(0, 1), 0);
        DUE.same("single lines", Due.told("nodes 4;all;shape path 1;part 0 1;part 2 3;").exchanges(0, 1), 0);
        // Stars of 2 around one node: four lines in two couples, three such sharings.
        DUE.same("stars around one", Due.told("nodes 5;all;shape star 2;part 0 1 2;part 0 3 4;").exchanges(0, 1), 2);
        // A star of lines (0,1), (0,3) would leave (0,2), (3,4), which is none.
        DUE.same("what is left is no part", Due.told("nodes 5;all;shape star 2;part 0 1 2;part 3 0 4;").exchanges(0, 1), 0);
        DUE.same("a ring of four", Due.told("nodes 4;all;shape path 2;part 0 1 2;part 2 3 0;").exchanges(0, 1), 1);
    }

    private static void exchangeDone() {
        PartedNet net = Due.told("nodes 5;all;shape star 2;part 0 1 2;part 3 1 4;part 0 3 4;");
        String ahead = Due.view(net);
        DUE.missing("exchange(3, 3, 0)", () -> net.exchange(3, 3, 0));
        DUE.missing("exchange(0, 3, 0)", () -> net.exchange(0, 3, 0));
        DUE.missing("exchange(0, -1, 0)", () -> net.exchange(0, -1, 0));
        DUE.unfit("exchange(2, 2, 99)", () -> net.exchange(2, 2, 99));
        DUE.missing("exchange(0, 2, 2)", () -> net.exchange(0, 2, 2));
        DUE.missing("exchange(0, 2, -1)", () -> net.exchange(0, 2, -1));
        DUE.missing("exchange(0, 2, MAX)", () -> net.exchange(0, 2, Integer.MAX_VALUE));
        DUE.holds("refusals change nothing", ahead.equals(Due.view(net)));
        DUE.same("status(0)", net.status(0), 6);
        DUE.same("status(1)", net.status(1), 1);
        DUE.same("exchange(2, 0, 1)", net.exchange(2, 0, 1), 2);
        // Of lines 0 to 3 the couples are 01|23, 02|13, 03|12; the first one stood there.
        DUE.same("part(2, 0)", net.part(2, 0), 0);
        DUE.same("part(2, 1)", net.part(2, 1), 3);
        DUE.same("part(0, 0)", net.part(0, 0), 1);
        DUE.same("part(0, 1)", net.part(0, 1), 2);
        DUE.same("part(1, 0) stays", net.part(1, 0), net.line(1, 3, 0));
        DUE.same("told(8)", net.told(8), 2);
        DUE.same("exchange(0, 2, 0)", net.exchange(0, 2, 0), 2);
        DUE.same("part(0, 1)", net.part(0, 1), 1);
        DUE.same("part(2, 0)", net.part(2, 0), 2);
        DUE.same("undo()", net.undo(), 2);
        DUE.same("undo()", net.undo(), 1);
        DUE.holds("all is as it was", ahead.equals(Due.view(net)));
    }

    private static void classes() {
        DUE.same("no part", new PartedNet().classes(), 0);
        DUE.same("one part", Due.told("nodes 3;all;part 0 1 2;").classes(), 1);
        DUE.same("two apart", Due.told("nodes 6;all;part 0 1 2;part 3 4 5;").classes(), 1);
        DUE.same("two that meet", Due.told("nodes 5;all;part 0 1 2;part 2 3 4;").classes(), 2);
        DUE.same("a ring of five lines", Due.told("nodes 5;all;shape path 1;part 0 1;part 1 2;part 2 3;part 3 4;"
                + "part 4 0;").classes(), 3);
        DUE.same("a ring of six lines", Due.told("nodes 6;all;shape path 1;part 0 1;part 2 3;part 1 2;part 3 4;"
                + "part 4 5;part 5 0;").classes(), 2);
        PartedNet five = Due.told("nodes 5;all;shape path 1;");
        five.finish();
        DUE.same("all lines of five nodes", five.classes(), 5);
        PartedNet six = Due.told("nodes 6;all;shape path 1;less 4 5;");
        six.finish();
        DUE.same("14 parts", six.told(4), 14);
        DUE.same("14 lines of six nodes", six.classes(), 5);
        PartedNet more = Due.told("nodes 6;all;shape path 1;");
        more.finish();
        String ahead = Due.view(more);
        DUE.untimely("15 parts", more::classes);
        DUE.holds("a refusal changes nothing", ahead.equals(Due.view(more)));
        DUE.same("status(2)", more.status(2), 1);
        PartedNet nine = Due.told("nodes 9;all;part 0 1 2;part 3 4 5;part 6 7 8;part 0 3 6;part 1 4 7;part 2 5 8;"
                + "part 0 4 8;part 1 5 6;part 2 3 7;part 0 5 7;part 1 3 8;part 2 4 6;");
        DUE.same("nine nodes, twelve triangles", nine.classes(), 4);
    }
}
