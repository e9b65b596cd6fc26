import java.util.function.Supplier;

/** Promises 1 to 4: each sentence, of theirs and of the terms, that names a boundary case of texts and the tape. */
public final class TextEdgesTest {
    private static final Due DUE = new Due();
    /** A net with something of all kinds, and a place of a fault, that a fault or a refusal could spoil. */
    private static final Supplier<PartedNet> FULL = () -> {
        PartedNet net = Due.told("nodes 6;all;less 4 5;shape path 2;part 0 1 2;base 0 30 1;base 2 0 5;");
        net.put(3, 4, 0, PartedNet.NONE, PartedNet.NONE);
        Due.tell(net, "nodes 6;al;");
        Due.feed(net, "nodes 5;line 3 4;");
        return net;
    };

    public static void main(String[] args) {
        atFirst();
        objectsApart();
        highestFirst();
        threeHundred();
        bytesToRead();
        emptyText();
        fullText();
        allAnew();
        faultKeepsAll();
        leastAndMostNodes();
        manyDigits();
        manyLetters();
        blanks();
        noEntries();
        linesTwice();
        shapeOnce();
        shapeSizes();
        shapeBehindParts();
        fiveNodesOfAPart();
        baseNodes();
        fourBases();
        endsTooEarly();
        notThere();
        nodesNotThere();
        nodeAgain();
        firstByteOfSeveral();
        oneByteOfSeveral();
        fourthComesLast();
        noneOfShape();
        linesOfParts();
        placeOfFault();
        DUE.end();
    }

    private static void fault(String text, int fault, int place) {
        PartedNet net = new PartedNet();
        DUE.same("\"" + text + "\"", Due.tell(net, text), fault - 10);
        DUE.same("\"" + text + "\", then fault()", net.fault(), place);
    }

    private static void reads(String text, int left) {
        PartedNet net = new PartedNet();
        DUE.same("\"" + text + "\"", Due.tell(net, text), left);
        DUE.same("\"" + text + "\", then fault()", net.fault(), -1);
    }

    private static String blanksUpTo(int length, String behind) {
        return " ".repeat(length - behind.length()) + behind;
    }

    private static void atFirst() {
        DUE.promise(1, "At first: nodes 3; all;");
        PartedNet net = new PartedNet();
        DUE.sameText("all there is", Due.used(net), "3 3 0 3 0 3 0 0 0 -1 7 7 | -9 at 0");
        PartedNet other = new PartedNet();
        long[] got = {other.parts(0), other.parts(1), other.partAt(0), other.tests(), other.search(0), other.search(1),
            other.search(2), other.classes(), other.good(3), other.cover(3, 1), other.status(0), other.status(1),
            other.status(2), other.undo()};
        DUE.sameText("what is asked", java.util.Arrays.toString(got), "[1, 1, 7, 0, 1, 1, 1, 0, 1, 0, 0, 0, 0, -1]");
    }

    private static void objectsApart() {
        DUE.promise(1, "makes an object");
        PartedNet used = FULL.get();
        Due.outcome(() -> used.take(9));
        PartedNet net = new PartedNet();
        DUE.same("status(0) of a new one", net.status(0), 0);
        DUE.sameText("a new one beside a used one", Due.used(net), "3 3 0 3 0 3 0 0 0 -1 7 7 | -9 at 0");
    }

    private static void highestFirst() {
        DUE.promise(2, "Twenty bytes come on the tape, of each number the highest first");
        for (int place = 0; place < 20; place++) {
            for (int odd : new int[] {0, '!', 127, 128, 255}) {
                PartedNet net = new PartedNet();
                DUE.same("feed()", Due.feed(net, " ".repeat(place) + (char) odd + " ".repeat(19 - place)), 20);
                DUE.same("byte " + odd + " at " + place, net.text(20), -9);
                DUE.same("its place", net.fault(), place);
            }
        }
    }

    private static void threeHundred() {
        DUE.promise(2, "how many there are; NONE, doing nothing, if there would be more than 300");
        String text = "nodes 11;all;" + blanksUpTo(287, "less 9 10;");
        Supplier<PartedNet> full = () -> {
            PartedNet net = new PartedNet();
            Due.feed(net, text);
            return net;
        };
        PartedNet net = new PartedNet();
        for (int bytes = 20; bytes <= 300; bytes += 20) {
            DUE.same("feed()", net.feed(-1, -1, -1, -1, -1), bytes);
            DUE.same("told(7)", net.told(7), bytes);
        }
        DUE.changesNothing("feed() on 300 bytes", -1, full, x -> x.feed(-1, -1, -1, -1, -1));
        PartedNet read = full.get();
        read.feed(-1, -1, -1, -1, -1);
        DUE.same("text(300) then", read.text(300), 54);
        DUE.same("feed() on the tape that is empty then", read.feed(0, 0, 0, 0, 0), 20);
    }

    private static void bytesToRead() {
        DUE.promise(3, "IllegalArgumentException: n is not 0 to the tape's bytes (it stays)");
        DUE.refusedAlone("text(-1)", Due.UNFIT, FULL, net -> net.text(-1));
        DUE.refusedAlone("text(21) of 20", Due.UNFIT, FULL, net -> net.text(21));
        DUE.refusedAlone("text(MIN)", Due.UNFIT, FULL, net -> net.text(Integer.MIN_VALUE));
        DUE.refusedAlone("text(MAX)", Due.UNFIT, FULL, net -> net.text(Integer.MAX_VALUE));
        DUE.refusedAlone("text(1) of none", Due.UNFIT, PartedNet::new, net -> net.text(1));
        DUE.refusedAlone("text(-1) of none", Due.UNFIT, PartedNet::new, net -> net.text(-1));
        Supplier<PartedNet> full = () -> {
            PartedNet net = new PartedNet();
            Due.feed(net, blanksUpTo(300, "nodes 4;all;"));
            return net;
        };
        DUE.refusedAlone("text(301) of 300", Due.UNFIT, full, net -> net.text(301));
        DUE.same("text(300) of 300", full.get().text(300), 6);
        DUE.promise(3, "The first n bytes of the tape (empty then)");
        PartedNet net = FULL.get();
        DUE.same("text(8) of 20", net.text(8), 0);
        DUE.same("told(0)", net.told(0), 5);
        DUE.same("told(7)", net.told(7), 0);
        PartedNet whole = FULL.get();
        DUE.same("text(17) of 20", whole.text(17), 1);
        DUE.same("told(7)", whole.told(7), 0);
        PartedNet last = FULL.get();
        DUE.same("text(20) of 20, the last three being 0", last.text(20), -9);
        DUE.same("fault()", last.fault(), 17);
        DUE.same("told(7) behind a fault", last.told(7), 0);
    }

    private static void emptyText() {
        DUE.promise(3, "n 0: a text that ends too early, at its length");
        PartedNet none = new PartedNet();
        DUE.same("text(0) of none", none.text(0), -9);
        DUE.same("fault()", none.fault(), 0);
        PartedNet some = FULL.get();
        DUE.same("text(0) of 20", some.text(0), -9);
        DUE.same("fault()", some.fault(), 0);
        DUE.same("told(7)", some.told(7), 0);
    }

    private static void fullText() {
        DUE.promise(3, "A text has up to 300 bytes");
        reads("nodes 11;" + blanksUpTo(291, "all;"), 55);
        reads("nodes 11;all;" + blanksUpTo(287, ""), 55);
        fault("nodes 11;all;" + blanksUpTo(287, "x"), 1, 299);
        fault("nodes 11;all" + blanksUpTo(288, ""), 1, 300);
        fault("nodes 11;all;" + blanksUpTo(287, "line 0 11"), 2, 298);
        StringBuilder parts = new StringBuilder("nodes 11;all;shape path 1;");
        int count = 0;
        for (int a = 0; a < 10; a++) {
            for (int b = a + 1; b < 11 && parts.length() + 9 <= 300; b++) {
                parts.append("part").append(a).append(' ').append(b).append(';');
                count++;
            }
        }
        PartedNet net = new PartedNet();
        DUE.same("as many parts as have room", Due.tell(net, parts.toString()), 55 - count);
        DUE.same("told(4)", net.told(4), count);
        fault("nodes 3;" + "part0;".repeat(48), 4, 296);
    }

    private static void allAnew() {
        DUE.promise(3, "tell all anew: how many lines are left");
        PartedNet net = FULL.get();
        DUE.same("\"nodes 5;line 3 4;\"", net.text(17), 1);
        DUE.sameText("what is held", Due.held(net), "5 1 0 3 0 1 0 0 3 -1 512 512");
        DUE.same("a part that is put in", Due.tell(net, "nodes 5;all;part 0 1 2;"), 7);
        DUE.same("all parts that are put in", Due.tell(net, "nodes 3;all;part 0 1 2;"), 0);
    }

    private static void faultKeepsAll() {
        DUE.promise(3, "or the fault less 10 (all but the tape stays)");
        String[] texts = {"nodes 4;all;x", "nodes 4;all;line 0 4;", "nodes 4;base 0;base 0;base 0;base 0;base 0;",
            "nodes 4;all;shape ring 4;part 0 1 2;"};
        for (int fault = 1; fault <= 4; fault++) {
            PartedNet net = FULL.get();
            PartedNet twin = FULL.get();
            String text = texts[fault - 1];
            net.text(0);
            twin.text(0);
            DUE.same(text, Due.tell(net, text), fault - 10);
            DUE.same("told(8)", net.told(8), 2);
            DUE.same("status(1)", net.status(1), 0);
            int place = net.fault();
            String due = Due.held(twin).replaceFirst(" 0 (?=" + net.left() + " )", " " + place + " ");
            DUE.sameText("what is held", Due.held(net), due);
        }
    }

    private static void leastAndMostNodes() {
        DUE.promise(3, "nodes (2 to 11); a number that is none such");
        fault("nodes 0;", 2, 6);
        fault("nodes 1;", 2, 6);
        reads("nodes 2;all;", 1);
        reads("nodes 11;all;", 55);
        fault("nodes 12;", 2, 6);
        fault("nodes 20;", 2, 6);
    }

    private static void manyDigits() {
        DUE.promise(3, "N: digits as many as stand there");
        reads("nodes " + "0".repeat(287) + "11;all;", 55);
        fault("nodes " + "0".repeat(287) + "12;all;", 2, 6);
        fault("nodes " + "9".repeat(290) + ";", 2, 6);
        fault("nodes 4294967299;", 2, 6);
        fault("nodes 18446744073709551619;", 2, 6);
        fault("nodes 3;shape path 4294967297;", 2, 19);
        fault("nodes 3;base 0 1 4294967298;", 2, 17);
        fault("nodes 3;line 0 4294967297;", 2, 15);
        reads("nodes 3;line 00 0000000000000000000001;", 1);
        fault("nodes 3;line 01;", 1, 15);
    }

    private static void manyLetters() {
        DUE.promise(3, "words: small letters as many as stand there");
        fault("nodesnodes 3;", 1, 0);
        fault("node s 3;", 1, 0);
        fault("nodes 3;lines 0 1;", 1, 8);
        fault("nodes 3;al l;", 1, 8);
        fault("nodes 3;al", 1, 8);
        fault("nodes 3;shape paths 1;", 1, 14);
        fault("nodes 3;ALL;", 1, 8);
        fault("nodes 3;a{l;", 1, 8);
        fault("nodes 3;`all;", 1, 8);
        fault("nodes 3;all{;", 1, 11);
        fault("nodes 3;all`;", 1, 11);
        fault("nodes 3/;", 1, 7);
        fault("nodes 3:;", 1, 7);
        fault("nodes /3;", 1, 6);
        fault("nodes :3;", 1, 6);
        fault("nodes 3;allz;", 1, 8);
        fault("nodes 3;alla;", 1, 8);
        fault("zzz", 1, 0);
        DUE.promise(3, "no other words than these, letter by letter");
        otherWords("", "nodes", " 3;");
        for (String word : new String[] {"all", "line", "less", "shape", "part", "base"}) {
            otherWords("nodes 3;", word, " 0 1 2;");
        }
        for (String word : new String[] {"triangle", "path", "star", "ring"}) {
            otherWords("nodes 3;shape ", word, " 3;");
        }
    }

    private static void otherWords(String ahead, String word, String behind) {
        for (int i = 0; i < word.length(); i++) {
            char next = (char) (word.charAt(i) + 1);
            fault(ahead + word.substring(0, i) + next + word.substring(i + 1) + behind, 1, ahead.length());
            fault(ahead + word.substring(0, i) + word.substring(i + 1) + behind, 1, ahead.length());
        }
    }

    private static void blanks() {
        DUE.promise(3, "blanks (32) may stand ahead of all words, numbers, \";\", and at the end");
        reads("nodes3;line0 1;less0 1;shape path2;part0 1 2;line0 1;line1 2;base0 1 2;", 0);
        reads("  nodes  3  ;  line  0  1  ;  less  0  1  ;  shape  path  2  ;  part  0  1  2  ;  line  0  1  ;  line  1  2  ;"
                + "  base  0  1  2  ;  ", 0);
        for (int sign : new int[] {9, 10, 13, 0, 31, 33, 160}) {
            char other = (char) sign;
            fault(other + "nodes 3;", 1, 0);
            fault("nodes" + other + "3;", 1, 5);
            fault("nodes 3" + other + ";", 1, 7);
            fault("nodes 3;" + other, 1, 8);
            fault("nodes 3;all" + other + ";", 1, 11);
            fault("nodes 3;line 0" + other + "1;", 1, 14);
        }
    }

    private static void noEntries() {
        DUE.promise(3, "\"nodes\" N \";\" and none, one, or more behind it, each with a \";\"");
        reads("nodes 11;", 0);
        reads("nodes 11; ", 0);
        fault("nodes 11;;", 1, 9);
        fault("nodes 11; ;", 1, 10);
        fault(";nodes 11;", 1, 0);
        fault("nodes 11;all;;", 1, 13);
        fault("nodes 11 all;", 1, 9);
        fault("nodes 11;all line 0 1;", 1, 13);
        fault("nodes 11;nodes 11;", 1, 9);
        fault("all;nodes 11;", 1, 0);
        fault("nodes 11;11;", 1, 9);
    }

    private static void linesTwice() {
        DUE.promise(3, "a line more, a line less (it may be there already, or not)");
        reads("nodes 4;line 0 1;line 0 1;line 1 0;", 1);
        reads("nodes 4;less 0 1;", 0);
        reads("nodes 4;all;less 2 3;less 3 2;", 5);
        reads("nodes 4;all;line 2 3;", 6);
        reads("nodes 4;less 2 3;all;all;", 6);
        reads("nodes 4;line 0 1;less 1 0;", 0);
        reads("nodes 4;less 0 1;line 0 1;", 1);
        PartedNet net = Due.told("nodes 11;line 10 9;line 1 0;");
        DUE.same("the first line and the last one", net.left(), 1L << 54 | 1L);
    }

    private static void shapeOnce() {
        DUE.promise(3, "S (once; a triangle without it); \"shape\" a second time, by its word");
        DUE.same("told(2) without it", Due.told("nodes 4;").told(2), 0);
        DUE.same("told(3) without it", Due.told("nodes 4;").told(3), 3);
        DUE.same("told(2) of a triangle", Due.told("nodes 4;shape triangle;").told(2), 0);
        fault("nodes 4;shape path 1;all;  shape path 1;", 1, 27);
        fault("nodes 4;shape triangle;shape triangle;", 1, 23);
        fault("nodes 4;shape triangle;shape", 1, 23);
        fault("nodes 4;shape triangle;shape path 99", 1, 23);
        PartedNet net = Due.told("nodes 4;all;shape star 2;");
        DUE.same("in each text anew", Due.tell(net, "nodes 4;all;shape ring 4;"), 6);
        DUE.same("told(2)", net.told(2), 3);
        DUE.same("a fault behind its word", Due.tell(net, "nodes 4;shape path 0;"), -8);
        DUE.same("then once again", Due.tell(net, "nodes 4;shape path 1;"), 0);
        DUE.same("told(2)", net.told(2), 1);
        Due.tell(net, "nodes 4;");
        DUE.same("a triangle without it, again", net.told(2), 0);
        DUE.same("of three lines", net.told(3), 3);
    }

    private static void shapeSizes() {
        DUE.promise(3, "path k 1 to 4, star k 1 to 4, ring k 3 to 5; a number that is none such");
        sizes("path", 1, 1, 4);
        sizes("star", 2, 1, 4);
        sizes("ring", 3, 3, 5);
        fault("nodes 4;shape path;", 1, 18);
        fault("nodes 4;shape path 1 1;", 1, 21);
        fault("nodes 4;shape triangle 3;", 1, 23);
        fault("nodes 4;shape;", 1, 13);
        fault("nodes 4;shape 1;", 1, 14);
        fault("nodes 4;shape line 1;", 1, 14);
    }

    private static void sizes(String word, int shape, int least, int most) {
        fault("nodes 2;shape " + word + " " + (least - 1) + ";", 2, 19);
        fault("nodes 2;shape " + word + " " + (most + 1) + ";", 2, 19);
        for (int size = least; size <= most; size++) {
            PartedNet net = Due.told("nodes 2;shape " + word + " " + size + ";");
            DUE.same(word + " " + size + ", told(2)", net.told(2), shape);
            DUE.same(word + " " + size + ", told(3)", net.told(3), size);
        }
    }

    private static void shapeBehindParts() {
        DUE.promise(3, "a part, a base of the shape, wherever it is told");
        reads("nodes 5;all;part 0 1 2 3 4;base 0 1 2 3 4;shape ring 5;", 5);
        reads("nodes 5;all;part 0 1;base 9 30;shape star 1;", 9);
        fault("nodes 5;all;part 0 1 2;shape path 3;", 4, 36);
        fault("nodes 5;all;base 0 1 2;shape path 3;", 4, 36);
    }

    private static void fiveNodesOfAPart() {
        DUE.promise(3, "\"part\" N { N }; a sixth N of part, base");
        fault("nodes 6;part;", 1, 12);
        fault("nodes 6;base;", 1, 12);
        fault("nodes 6;part ;", 1, 13);
        fault("nodes 6;part 0 1 2 3 4 5;", 1, 23);
        fault("nodes 6;base 0 1 2 3 4   5;", 1, 25);
        fault("nodes 6;part 0 0 0 0 0;", 4, 23);
        fault("nodes 6;part 0;", 4, 15);
        fault("nodes 6;base 0;", 4, 15);
        reads("nodes 6;all;shape path 4;part 4 3 2 1 0;base 4 3 2 1 0;", 11);
        fault("nodes 6;part 0 1 2,", 1, 18);
    }

    private static void baseNodes() {
        DUE.promise(3, "a node that there is not, of base 0 to 30");
        reads("nodes 2;base 0 30 1;", 0);
        fault("nodes 2;base 0 31 1;", 2, 15);
        fault("nodes 2;base 31 0 1;", 2, 13);
        fault("nodes 11;base 0 1 100;", 2, 18);
    }

    private static void fourBases() {
        DUE.promise(3, "a base (4 at most); 3 a fifth base (by its word)");
        String four = "nodes 2;base 0 1 2;base 0 1 2;base 3 4 5;base 0 1 2;";
        DUE.same("four", Due.told(four).told(6), 4);
        fault(four + "base 0 1 2;", 3, 52);
        fault(four + "   base 0 1 2;", 3, 55);
        fault(four + "base", 3, 52);
        fault(four + "base;", 3, 52);
        fault(four + "base 31", 3, 52);
        fault(four + "all;base 0 1 2;", 3, 56);
        PartedNet net = Due.told(four);
        DUE.same("four in each text anew", Due.tell(net, four), 0);
    }

    private static void endsTooEarly() {
        DUE.promise(3, "1 what can't stand there (at the length, if the text ends too early)");
        String text = "nodes 9;line 1 2;less 3 4;shape ring 3;part 5 6 7;base 8 7 6;";
        int[] whole = {8, 17, 26, 39, 50, 61};
        for (int length = 0; length < text.length(); length++) {
            String some = text.substring(0, length);
            boolean inWord = length < text.length() && Character.isLetter(text.charAt(length)) && length > 0
                    && Character.isLetter(text.charAt(length - 1));
            boolean ends = java.util.Arrays.stream(whole).anyMatch(x -> x == some.length());
            if (!inWord && !ends) {
                fault(some, 1, length);
                fault(some + "   ", 1, length + 3);
            }
        }
    }

    private static void notThere() {
        DUE.promise(3, "1 what can't stand there, its first byte");
        fault("nodes 9;line one 2;", 1, 13);
        fault("nodes 9;line 1  two;", 1, 16);
        fault("nodes 9;line 1 2 3;", 1, 17);
        fault("nodes 9;line 1 2 all;", 1, 17);
        fault("nodes -9;", 1, 6);
        fault("nodes +9;", 1, 6);
        fault("nodes 9;line 1,2;", 1, 14);
        fault("nodes 9;part 1 2 x;", 1, 17);
        fault("nodes 9;base x;", 1, 13);
    }

    private static void nodesNotThere() {
        DUE.promise(3, "2 a node that there is not");
        for (String word : new String[] {"line", "less"}) {
            fault("nodes 3;" + word + " 3 0;", 2, 13);
            fault("nodes 3;" + word + " 0 3;", 2, 15);
            fault("nodes 3;" + word + " 3 3;", 2, 13);
            reads("nodes 3;" + word + " 2 0;less 0 2;", 0);
        }
        fault("nodes 3;part 3 0 1;", 2, 13);
        fault("nodes 3;part 0 1 3;", 2, 17);
        fault("nodes 3;part 0 1 2 0 3;", 2, 21);
        fault("nodes 11;part 11;", 2, 14);
        reads("nodes 11;all;part 10 9 8;", 52);
    }

    private static void nodeAgain() {
        DUE.promise(3, "2 in line, less the node ahead of it again");
        fault("nodes 3;line 1 1;", 2, 15);
        fault("nodes 3;less 0 0;", 2, 15);
        fault("nodes 3;line 2 02;", 2, 15);
        fault("nodes 3;line 2  2 x", 2, 16);
        DUE.promise(3, "a node again of a part, a base is 4");
        fault("nodes 3;all;part 0 1 1;", 4, 23);
        fault("nodes 3;all;part 0 1 0;", 4, 23);
        fault("nodes 3;all;base 0 1 0;", 4, 23);
    }

    private static void firstByteOfSeveral() {
        DUE.promise(3, "of several of 1 to 3 the one whose first byte is least");
        String four = "nodes 2;base 0 1 2;base 0 1 2;base 3 4 5;base 0 1 2;";
        fault("nodes 3;line 0 3;x", 2, 15);
        fault("nodes 3;x;line 0 3;", 1, 8);
        fault("nodes 12;x;", 2, 6);
        fault("nodes 12", 2, 6);
        fault(four + "line 0 2;base 0 1 2;", 2, 59);
        fault(four + "x;base 0 1 2;", 1, 52);
        fault(four + "base 0 1 2;line 0 2;x", 3, 52);
        fault("nodes 3;shape path 0;shape path 1;", 2, 19);
        fault("nodes 3;part 0 1 2 0 3 0;", 2, 21);
        fault("nodes 3;line 3", 2, 13);
    }

    private static void oneByteOfSeveral() {
        DUE.promise(3, "of one byte the first in this list");
        fault("nodes 3;part 0 1 2 0 1 3;", 1, 23);
        fault("nodes 3;base 0 1 2 0 1 31;", 1, 23);
        fault("nodes 3 12;", 1, 8);
        fault("nodes 3;line 0 1 3;", 1, 17);
        fault("nodes 2;base 0 1 2;base 0 1 2;base 3 4 5;base 0 1 2 base 0 1 2;", 1, 52);
        fault("nodes 2;base 0 1 2;base 0 1 2;base 3 4 5;base 0 1 2;line base 0 1 2;", 1, 57);
    }

    private static void fourthComesLast() {
        DUE.promise(3, "If there is none of these: 4, at the length");
        fault("nodes 3;base 0 1;x", 1, 17);
        fault("nodes 3;base 0 1;line 0 3;", 2, 24);
        fault("nodes 3;base 0;base 0;base 0;base 0;base 0;", 3, 36);
        fault("nodes 3;base 0 1;", 4, 17);
        fault("nodes 3;base 0 1;   ", 4, 20);
        fault("nodes 3;part 0 1;all", 1, 20);
    }

    private static void noneOfShape() {
        DUE.promise(3, "4: a base, a part that is none of the shape");
        String[] shapes = {"triangle", "path 1", "path 4", "star 1", "star 4", "ring 3", "ring 4", "ring 5"};
        int[] places = {3, 2, 5, 2, 5, 3, 4, 5};
        for (int i = 0; i < shapes.length; i++) {
            String head = "nodes 5;all;shape " + shapes[i] + ";";
            for (int count = 1; count <= 5; count++) {
                String row = "0 1 2 3 4".substring(0, 2 * count - 1);
                String part = head + "part " + row + ";";
                String base = head + "base " + row + ";";
                if (count == places[i]) {
                    DUE.same(part, Due.told(part).told(4), 1);
                    DUE.same(base, Due.told(base).told(6), 1);
                } else {
                    fault(part, 4, part.length());
                    fault(base, 4, base.length());
                }
            }
            String again = "0 1 2 3 4".substring(0, 2 * places[i] - 2) + "0;";
            fault(head + "part " + again, 4, head.length() + 5 + again.length());
            fault(head + "base " + again, 4, head.length() + 5 + again.length());
        }
        DUE.promise(3, "a base by its nodes likewise: unlike as they are told, lines of the network or not");
        reads("nodes 7;base 0 7 14;", 0);
        reads("nodes 2;shape ring 5;base 0 2 4 6 8;", 0);
        DUE.promise(3, "4: a part of more nodes than there are");
        fault("nodes 2;all;part 0 1 0;", 4, 23);
    }

    private static void linesOfParts() {
        DUE.promise(3, "4: a part with a line that the network (as it is told as a whole) has not");
        fault("nodes 4;part 0 1 2;", 4, 19);
        fault("nodes 4;all;less 1 2;part 0 1 2;", 4, 32);
        fault("nodes 4;all;part 0 1 2;less 1 2;", 4, 32);
        reads("nodes 4;part 0 1 2;all;", 3);
        reads("nodes 4;part 0 1 2;line 0 1;line 0 2;line 1 2;", 0);
        reads("nodes 4;all;part 0 1 2;less 1 2;line 2 1;", 3);
        DUE.promise(3, "4: or that a part ahead has");
        fault("nodes 5;all;part 0 1 2;part 2 1 0;", 4, 34);
        fault("nodes 5;all;part 0 1 2;part 3 4 0;part 1 2 3;", 4, 45);
        reads("nodes 5;all;part 0 1 2;part 2 3 4;", 4);
    }

    private static void placeOfFault() {
        DUE.promise(4, "NONE without one, and ahead of any");
        PartedNet net = new PartedNet();
        DUE.same("fault() ahead of any", net.fault(), -1);
        Due.feed(net, "x");
        DUE.same("fault() behind feed()", net.fault(), -1);
        DUE.refused("text(21)", IllegalArgumentException.class, () -> net.text(21));
        DUE.same("fault() behind a refusal", net.fault(), -1);
        DUE.promise(4, "The place of the fault of the latest text() that threw nothing");
        DUE.same("text(1)", net.text(1), -9);
        DUE.same("fault() at 0", net.fault(), 0);
        DUE.same("a fault of 4", Due.tell(net, "nodes 3;part 0 1 2;"), -6);
        DUE.same("fault()", net.fault(), 19);
        DUE.refused("text(1)", IllegalArgumentException.class, () -> net.text(1));
        DUE.same("fault() behind a refusal", net.fault(), 19);
        DUE.same("none", Due.tell(net, "nodes 3;"), 0);
        DUE.same("fault()", net.fault(), -1);
        DUE.same("a fault at 300", Due.tell(net, " ".repeat(300)), -9);
        DUE.same("fault()", net.fault(), 300);
        DUE.same("undo()", net.undo(), 0);
        DUE.same("fault() stays", net.fault(), 300);
    }
}
