/** Promises 10 and 26: acts taken back, refusals counted. */
public final class ActsTest {
    private static final Due DUE = new Due();

    public static void main(String[] args) {
        eachAct();
        latestEight();
        actsBehindUndo();
        whatStays();
        counts();
        DUE.end();
    }

    private static void eachAct() {
        PartedNet net = new PartedNet();
        String[] views = new String[7];
        views[0] = Due.view(net);
        Due.tell(net, "nodes 7;all;shape path 2;base 0 1 3;");
        views[1] = Due.view(net);
        net.put(0, 1, 2, -1, -1);
        views[2] = Due.view(net);
        net.put(2, 3, 0, -1, -1);
        views[3] = Due.view(net);
        net.exchange(0, 1, 0);
        views[4] = Due.view(net);
        net.take(0);
        views[5] = Due.view(net);
        DUE.same("finish() without a way", net.finish(), -1);
        DUE.same("no act", net.told(8), 5);
        net.put(0, 5, 6, -1, -1);
        views[6] = Due.view(net);
        for (int back = 5; back >= 0; back--) {
            DUE.same("undo()", net.undo(), back);
            DUE.holds("view " + back, views[back].equals(Due.view(net)));
        }
        DUE.same("undo() of none", net.undo(), -1);
        DUE.holds("nothing changes", views[0].equals(Due.view(net)));
        Due.tell(net, "nodes 7;line 0 1;base 0 1 3;");
        String told = Due.view(net);
        net.develop();
        net.take(3);
        net.finish();
        DUE.same("undo() finish", net.undo(), 3);
        DUE.same("parts", net.told(4), 6);
        DUE.same("undo() take", net.undo(), 2);
        DUE.same("parts", net.told(4), 7);
        DUE.same("undo() develop", net.undo(), 1);
        DUE.holds("ahead of develop", told.equals(Due.view(net)));
    }

    private static void latestEight() {
        PartedNet net = Due.told("nodes 6;all;shape path 1;");
        for (int i = 1; i <= 5; i++) {
            net.put(0, i, -1, -1, -1);
            DUE.same("told(8)", net.told(8), i + 1);
        }
        for (int i = 2; i <= 5; i++) {
            net.put(1, i, -1, -1, -1);
        }
        DUE.same("told(8) of ten", net.told(8), 8);
        for (int back = 7; back >= 0; back--) {
            DUE.same("undo()", net.undo(), back);
            DUE.same("told(4)", net.told(4), back + 1);
        }
        DUE.same("undo() of a ninth", net.undo(), -1);
        DUE.same("told(4)", net.told(4), 1);
    }

    private static void actsBehindUndo() {
        PartedNet net = Due.told("nodes 6;all;shape path 1;");
        net.put(0, 1, -1, -1, -1);
        net.put(0, 2, -1, -1, -1);
        DUE.same("undo()", net.undo(), 2);
        net.put(0, 3, -1, -1, -1);
        DUE.same("told(8)", net.told(8), 3);
        DUE.same("line(0, 2, 2)", net.line(0, 2, 2), -1);
        DUE.same("undo()", net.undo(), 2);
        DUE.same("undo()", net.undo(), 1);
        DUE.same("told(4)", net.told(4), 0);
        DUE.same("undo() of the text", net.undo(), 0);
        DUE.same("told(0)", net.told(0), 3);
    }

    private static void whatStays() {
        PartedNet net = Due.told("nodes 6;all;");
        DUE.same("a fault", Due.tell(net, "nodes x"), -9);
        Due.feed(net, "some bytes");
        DUE.same("undo()", net.undo(), 0);
        DUE.same("told(7) stays", net.told(7), 20);
        DUE.same("fault() stays", net.fault(), 6);
        DUE.missing("take(0)", () -> net.take(0));
        DUE.same("undo()", net.undo(), -1);
        DUE.same("status(0) stays", net.status(0), 1);
    }

    private static void counts() {
        PartedNet net = new PartedNet();
        for (int what = 0; what < 3; what++) {
            DUE.same("status(" + what + ")", net.status(what), 0);
        }
        DUE.same("status(3)", net.status(3), -1);
        DUE.same("status(-1)", net.status(-1), -1);
        DUE.same("status(MIN)", net.status(Integer.MIN_VALUE), -1);
        DUE.same("status(MAX)", net.status(Integer.MAX_VALUE), -1);
        String ahead = Due.view(net);
        DUE.missing("take", () -> net.take(0));
        DUE.missing("exchange", () -> net.exchange(0, 1, 0));
        DUE.missing("line", () -> net.line(0, 3, 0));
        DUE.missing("node", () -> net.node(3, 0));
        DUE.missing("part", () -> net.part(0, 0));
        DUE.missing("partAt", () -> net.partAt(1));
        DUE.missing("exchanges", () -> net.exchanges(0, 1));
        DUE.missing("base", () -> net.base(0, 0));
        DUE.unfit("text", () -> net.text(1));
        DUE.unfit("put", () -> net.put(0, 1, 3, -1, -1));
        DUE.unfit("told", () -> net.told(9));
        DUE.unfit("line", () -> net.line(0, 0, 0));
        DUE.unfit("node", () -> net.node(0, 3));
        DUE.unfit("parts", () -> net.parts(2));
        DUE.unfit("search", () -> net.search(3));
        DUE.unfit("cover", () -> net.cover(3, 2));
        DUE.unfit("good", () -> net.good(2));
        DUE.untimely("develop", net::develop);
        DUE.same("status(0)", net.status(0), 8);
        DUE.same("status(1)", net.status(1), 9);
        DUE.same("status(2)", net.status(2), 1);
        DUE.holds("nothing else changes", ahead.equals(Due.view(net)));
    }
}
