/** Promises 1 to 4, and 11: a new object, the tape, texts and their faults. */
public final class TextTest {
    private static final Due DUE = new Due();

    public static void main(String[] args) {
        newObject();
        tape();
        texts();
        faultsOfPlace();
        faultsOfNumber();
        faultsOfBases();
        faultsOfParts();
        DUE.end();
    }

    private static void newObject() {
        PartedNet net = new PartedNet();
        int[] told = {3, 3, 0, 3, 0, 3, 0, 0, 0};
        for (int what = 0; what < told.length; what++) {
            DUE.same("new: told(" + what + ")", net.told(what), told[what]);
        }
        DUE.unfit("told(9)", () -> net.told(9));
        DUE.unfit("told(-1)", () -> net.told(-1));
        DUE.same("new: fault()", net.fault(), -1);
        DUE.same("new: left()", net.left(), 7);
        DUE.same("new: undo()", net.undo(), -1);
        PartedNet same = new PartedNet();
        Due.tell(same, "nodes 3; all;");
        same.undo();
        DUE.holds("new: as its text tells it", Due.view(net).equals(Due.view(same)));
    }

    private static void tape() {
        PartedNet net = new PartedNet();
        for (int i = 1; i <= 15; i++) {
            DUE.same("feed", net.feed(0x20202020, 0x20202020, 0x20202020, 0x20202020, 0x20202020), 20 * i);
        }
        DUE.same("feed beyond 300", net.feed(0, 0, 0, 0, 0), -1);
        DUE.same("told(7)", net.told(7), 300);
        DUE.unfit("text(301)", () -> net.text(301));
        DUE.unfit("text(-1)", () -> net.text(-1));
        DUE.unfit("text(MIN)", () -> net.text(Integer.MIN_VALUE));
        DUE.same("the tape stays behind a refusal", net.told(7), 300);
        DUE.same("fault() behind a refusal", net.fault(), -1);
        DUE.same("text(300) of blanks", net.text(300), -9);
        DUE.same("fault() at the length", net.fault(), 300);
        DUE.same("the tape is empty then", net.told(7), 0);
        DUE.same("feed again", net.feed(0x6e6f6465, 0x73353b00, -1, -1, -1), 20);
        DUE.same("highest byte first", net.text(7), 0);
        DUE.same("told(0)", net.told(0), 5);
        DUE.same("fault() without one", net.fault(), -1);
        DUE.same("a byte above 127", Due.tell(net, "nodes 5;" + (char) 233), -9);
        DUE.same("its place", net.fault(), 8);
        Due.feed(net, "nodes 4;all;");
        DUE.same("a part of the tape", net.text(8), 0);
        DUE.same("all of the tape is gone", net.told(7), 0);
    }

    private static void texts() {
        reads("nodes 2;", 0, 2, 0);
        reads("nodes 11;all;", 55, 11, 55);
        reads("nodes3;line0 1;", 1, 3, 1);
        reads("   nodes   004  ;  all  ;   ", 6, 4, 6);
        reads("nodes 4;line 0 1;line 1 0;less 2 3;", 1, 4, 1);
        reads("nodes 4;all;less 0 1;less 0 1;", 5, 4, 5);
        reads("nodes 4;less 0 1;all;", 6, 4, 6);
        reads("nodes 5;part 0 1 2;all;", 7, 5, 10);
        reads("nodes 5;part 4 0 1 2 3;shape path 4;all;", 6, 5, 10);
        reads("nodes 5;part 4 0 1 2 3;shape star 4;all;", 6, 5, 10);
        reads("nodes 5;part 4 0 1 2 3;shape ring 5;all;", 5, 5, 10);
        PartedNet net = Due.told("nodes 9;all;shape ring 3;part 2 1 0;base 0 30 11;base 1 2 3;");
        DUE.same("shape", net.told(2), 3);
        DUE.same("lines of a part", net.told(3), 3);
        DUE.same("parts", net.told(4), 1);
        DUE.same("bases", net.told(6), 2);
        DUE.same("acts", net.told(8), 1);
        DUE.same("anew", Due.tell(net, "nodes 2;"), 0);
        int[] told = {2, 0, 0, 3, 0, 0, 0, 0, 2};
        for (int what = 0; what < told.length; what++) {
            DUE.same("anew: told(" + what + ")", net.told(what), told[what]);
        }
        StringBuilder many = new StringBuilder("nodes 11;all;shape path 1;");
        for (int other = 1; other <= 10; other++) {
            many.append("part0 ").append(other).append(';');
        }
        for (int other = 2; other <= 10; other++) {
            many.append("part1 ").append(other).append(';');
        }
        for (int other = 3; other <= 10; other++) {
            many.append("part2 ").append(other).append(';');
        }
        DUE.same("many parts", Due.told(many.toString()).told(4), 27);
        StringBuilder full = new StringBuilder("nodes2;shape path 1;");
        while (full.length() + 6 <= 300) {
            full.append("part0;");
        }
        fault(full.toString(), 4, full.length());
    }

    private static void reads(String text, int left, int nodes, int lines) {
        PartedNet net = new PartedNet();
        DUE.same(text, Due.tell(net, text), left);
        DUE.same(text + " fault()", net.fault(), -1);
        DUE.same(text + " told(0)", net.told(0), nodes);
        DUE.same(text + " told(1)", net.told(1), lines);
        DUE.same(text + " told(5)", net.told(5), left);
    }

    private static void fault(String text, int fault, int place) {
        PartedNet net = Due.told("nodes 6; all; part 0 1 2; base 0 1 3;");
        String ahead = Due.view(net);
        DUE.same(text, Due.tell(net, text), fault - 10);
        DUE.same(text + " fault()", net.fault(), place);
        DUE.same(text + " told(7)", net.told(7), 0);
        DUE.same(text + " told(8)", net.told(8), 1);
        String behind = Due.view(net);
        // The place of the fault is the one thing that changes.
        DUE.holds(text + " changes nothing", ahead.replaceFirst(" -1 ", " x ").equals(
                behind.replaceFirst(" " + place + " (?=" + net.left() + " )", " x ")));
    }

    private static void faultsOfPlace() {
        fault("", 1, 0);
        fault("  ", 1, 2);
        fault(" ;", 1, 1);
        fault("node 3;", 1, 0);
        fault("nodess 3;", 1, 0);
        fault("Nodes 3;", 1, 0);
        fault("nodes", 1, 5);
        fault("nodes  ", 1, 7);
        fault("nodes ;", 1, 6);
        fault("nodes -3;", 1, 6);
        fault("nodes 3", 1, 7);
        fault("nodes 3 3;", 1, 8);
        fault("nodes 3all;", 1, 7);
        fault("nodes 3;;", 1, 8);
        fault("nodes 3;nodes 3;", 1, 8);
        fault("nodes 3; 3;", 1, 9);
        fault("nodes 3;all", 1, 11);
        fault("nodes 3;all all;", 1, 12);
        fault("nodes 3;allall;", 1, 8);
        fault("nodes 3;\tall;", 1, 8);
        fault("nodes 3;line;", 1, 12);
        fault("nodes 3;line 0;", 1, 14);
        fault("nodes 3;line 01;", 1, 15);
        fault("nodes 3;line 0 1 2;", 1, 17);
        fault("nodes 3;less 0", 1, 14);
        fault("nodes 3;shape;", 1, 13);
        fault("nodes 3;shape 3;", 1, 14);
        fault("nodes 3;shape triangle 3;", 1, 23);
        fault("nodes 3;shape path;", 1, 18);
        fault("nodes 3;shape trianglepath;", 1, 14);
        fault("nodes 3;shape triangle; shape path 9;", 1, 24);
        fault("nodes 3;part;", 1, 12);
        fault("nodes 3;part 0 1 2", 1, 18);
        fault("nodes 3;part 0 1 2 0 1 99;", 1, 23);
        fault("nodes 3;base 0 1 2 0 1 99;", 1, 23);
        fault("nodes 3;base;", 1, 12);
        fault("nodes 3;base x;", 1, 13);
        fault("nodes 3;triangle;", 1, 8);
    }

    private static void faultsOfNumber() {
        fault("nodes 0;", 2, 6);
        fault("nodes 1;", 2, 6);
        fault("nodes 12;", 2, 6);
        fault("nodes 4294967299;", 2, 6);
        fault("nodes 18446744073709551619", 2, 6);
        fault("nodes 3;line 3 0;", 2, 13);
        fault("nodes 3;line 0 3;", 2, 15);
        fault("nodes 3;line 1 1;", 2, 15);
        fault("nodes 3;line 3 3", 2, 13);
        fault("nodes 3;less 2 02;", 2, 15);
        fault("nodes 3;shape path 0;", 2, 19);
        fault("nodes 3;shape path 5;", 2, 19);
        fault("nodes 3;shape star 0;", 2, 19);
        fault("nodes 3;shape star 5;", 2, 19);
        fault("nodes 3;shape ring 2;", 2, 19);
        fault("nodes 3;shape ring 6;", 2, 19);
        fault("nodes 3;part 0 1 3;", 2, 17);
        fault("nodes 3;part 0 1 4294967296;", 2, 17);
        fault("nodes 3;base 0 31 1;", 2, 15);
        fault("nodes 3;part 0 1 9 all", 2, 17);
        fault("nodes 3;all;part 0 1; line 0 7;", 2, 29);
    }

    private static void faultsOfBases() {
        String four = "nodes 3;base 0 1 2;base 0 1 2;base 0 1 2;base 0 1 2;";
        DUE.same("four bases", Due.told(four).told(6), 4);
        fault(four + " base 0 1 2;", 3, 53);
        fault(four + "base", 3, 52);
        fault(four + "basex", 1, 52);
        fault(four + "base 99 x", 3, 52);
        fault("nodes 3;base 0 1 1;base 0 1;base 0 1;base 0 1;base 1;", 3, 46);
    }

    private static void faultsOfParts() {
        fault("nodes 3;base 0 1;", 4, 17);
        fault("nodes 3;base 0 1 0;", 4, 19);
        fault("nodes 3;base 0 1 2;shape path 1;", 4, 32);
        fault("nodes 3;base 0 1 2;shape ring 4;  ", 4, 34);
        fault("nodes 3;all;part 0 1;", 4, 21);
        fault("nodes 3;all;part 0 1 1;", 4, 23);
        fault("nodes 4;all;part 0 1 2 3;", 4, 25);
        fault("nodes 4;all;part 0 1 2;less 0 1;", 4, 32);
        fault("nodes 4;all;part 0 1 2;part 1 2 3;", 4, 34);
        fault("nodes 4;part 0 1 2;", 4, 19);
        fault("nodes 4;all;part 0 1 2;shape path 3;", 4, 36);
    }
}
