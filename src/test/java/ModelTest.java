import java.util.ArrayList;
import java.util.List;
import java.util.Random;

/** Runs of calls, drawn with fixed seeds, on the class and on the model: each answer must be the same. */
public final class ModelTest {
    private static final int RUNS = 900;
    private static final int CALLS = 512;
    /** What most texts of a run are like: of all kinds, full of faults, with bases that are good. */
    private static final int MIXED = 0;
    private static final int FAULTY = 1;
    private static final int ROUND = 2;
    private static final int[] ODD = {Integer.MIN_VALUE, Integer.MAX_VALUE, -2, -1, 12, 31, 32, 300, 301, 1 << 30};

    private final Random random;
    private final int kind;
    private final PartedNet net = new PartedNet();
    private final Model model = new Model();
    private final List<String> log = new ArrayList<>();
    private boolean wrong = false;

    private ModelTest(long seed) {
        random = new Random(seed);
        kind = seed % 6 == 4 ? FAULTY : seed % 6 == 5 ? ROUND : MIXED;
    }

    public static void main(String[] args) {
        int runs = args.length > 0 ? Integer.parseInt(args[0]) : RUNS;
        long from = args.length > 1 ? Long.parseLong(args[1]) : 1;
        int wrong = 0;
        for (long seed = from; seed < from + runs && wrong < 5; seed++) {
            ModelTest test = new ModelTest(seed);
            test.run();
            if (test.wrong) {
                wrong++;
                System.out.println("seed " + seed + ":");
                List<String> log = test.log;
                log.subList(Math.max(0, log.size() - 25), log.size()).forEach(System.out::println);
            }
        }
        System.out.println(runs + " runs of " + CALLS + " calls, " + wrong + " with a wrong answer");
        if (wrong != 0) {
            System.exit(1);
        }
    }

    private void run() {
        for (int left = CALLS; left > 0 && !wrong; left -= 1) {
            if (random.nextInt(kind == FAULTY ? 5 : 25) == 0 && left > 40) {
                left -= tell(kind == FAULTY ? faultyText() : kind == ROUND ? roundText() : texts());
            } else {
                draw(random.nextInt(34));
            }
        }
    }

    private void same(String call, Due.Call ours, Due.Call due) {
        String got = Due.outcome(ours);
        String want = Due.outcome(due);
        log.add(call + " = " + got);
        if (!got.equals(want)) {
            wrong = true;
            log.add("   due is " + want);
        }
    }

    /** Mostly a number that there is, now and then any. */
    private int near(int bound) {
        int dice = random.nextInt(20);
        if (dice == 0) {
            return ODD[random.nextInt(ODD.length)];
        }
        if (dice == 1) {
            return bound;
        }
        return bound > 0 ? random.nextInt(bound) : 0;
    }

    private void draw(int which) {
        int nodes = model.told(0);
        int parts = model.told(4);
        int a = near(nodes);
        int b = near(nodes);
        int what = near(3);
        int one = near(parts);
        int other = near(parts);
        int n = kind == ROUND && random.nextBoolean() ? nodes : near(29) + 3;
        int d = near(n / 2) + 1;
        int k = near(4);
        switch (which) {
            case 0, 1, 2, 3, 4 -> put();
            case 5, 6 -> same("take(" + one + ")", () -> net.take(one), () -> model.take(one));
            case 7 -> same("exchange(" + one + ", " + other + ", " + k + ")",
                    () -> net.exchange(one, other, k), () -> model.exchange(one, other, k));
            case 8 -> exchangeSome(parts);
            case 9 -> same("finish()", net::finish, model::finish);
            case 10 -> {
                same("develop()", net::develop, model::develop);
                same("left()", net::left, model::left);
                same("print()", net::print, model::print);
            }
            case 11, 12 -> same("undo()", net::undo, model::undo);
            case 13, 14 -> {
                int told = near(9);
                same("told(" + told + ")", () -> net.told(told), () -> model.told(told));
            }
            case 15 -> same("line(" + a + ", " + b + ", " + what + ")",
                    () -> net.line(a, b, what), () -> model.line(a, b, what));
            case 16 -> same("node(" + a + ", " + what + ")", () -> net.node(a, what), () -> model.node(a, what));
            case 17, 18 -> same("part(" + one + ", " + k + ")", () -> net.part(one, k), () -> model.part(one, k));
            case 19 -> same("left()", net::left, model::left);
            case 20 -> {
                int some = near(2);
                same("parts(" + some + ")", () -> net.parts(some), () -> model.parts(some));
            }
            case 21, 22 -> {
                int at = near(model.parts(1));
                same("partAt(" + at + ")", () -> net.partAt(at), () -> model.partAt(at));
            }
            case 23 -> same("tests()", net::tests, model::tests);
            case 24, 25 -> same("search(" + what + ")", () -> net.search(what), () -> model.search(what));
            case 26 -> same("exchanges(" + one + ", " + other + ")",
                    () -> net.exchanges(one, other), () -> model.exchanges(one, other));
            case 27 -> same("classes()", net::classes, model::classes);
            case 28 -> same("cover(" + n + ", " + d + ")", () -> net.cover(n, d), () -> model.cover(n, d));
            case 29 -> same("good(" + n + ")", () -> net.good(n), () -> model.good(n));
            case 30 -> {
                int base = near(model.told(6));
                same("base(" + base + ", " + k + ")", () -> net.base(base, k), () -> model.base(base, k));
            }
            case 31 -> same("print()", net::print, model::print);
            case 32 -> same("status(" + what + ")", () -> net.status(what), () -> model.status(what));
            default -> same("fault()", net::fault, model::fault);
        }
    }

    /** Few couples of parts have exchanges: looks for one that has. */
    private void exchangeSome(int parts) {
        for (int tries = 0; tries < 40 && parts > 1; tries++) {
            int one = random.nextInt(parts);
            int other = random.nextInt(parts);
            int count = one == other ? 0 : model.exchanges(one, other);
            if (count > 0) {
                int k = near(count);
                same("exchange(" + one + ", " + other + ", " + k + ")",
                        () -> net.exchange(one, other, k), () -> model.exchange(one, other, k));
                same("print()", net::print, model::print);
                return;
            }
        }
    }

    private void put() {
        int nodes = model.told(0);
        int shape = model.told(2);
        int count = shape == 0 || shape == 3 ? model.told(3) : model.told(3) + 1;
        if (random.nextInt(15) == 0) {
            count = random.nextInt(6);
        }
        List<Integer> pool = new ArrayList<>();
        for (int node = 0; node < nodes; node++) {
            pool.add(node);
        }
        java.util.Collections.shuffle(pool, random);
        int[] row = {-1, -1, -1, -1, -1};
        for (int i = 0; i < count; i++) {
            row[i] = random.nextInt(60) == 0 ? near(nodes) : pool.get(i % nodes);
        }
        if (random.nextInt(60) == 0) {
            row[random.nextInt(5)] = near(nodes);
        }
        same("put(" + java.util.Arrays.toString(row) + ")", () -> net.put(row[0], row[1], row[2], row[3], row[4]),
                () -> model.put(row[0], row[1], row[2], row[3], row[4]));
    }

    /** Feeds the text and has it read; how many calls that took. */
    private int tell(String text) {
        log.add("the text: " + text);
        int calls = 0;
        for (int[] five : Due.numbers(text)) {
            calls++;
            same("feed()", () -> net.feed(five[0], five[1], five[2], five[3], five[4]), () -> model.feed(five));
        }
        for (int more = kind == FAULTY && random.nextInt(8) == 0 ? random.nextInt(17) : 0; more > 0; more--) {
            int any = random.nextInt();
            calls++;
            same("feed()", () -> net.feed(any, -any, any >>> 1, ~any, 0), () -> model.feed(any, -any, any >>> 1, ~any, 0));
        }
        int n = random.nextInt(20) == 0 ? near(text.length()) : text.length();
        same("text(" + n + ")", () -> net.text(n), () -> model.text(n));
        same("fault()", net::fault, model::fault);
        same("left()", net::left, model::left);
        same("print()", net::print, model::print);
        return calls + 3;
    }

    private String pick(String... some) {
        return some[random.nextInt(some.length)];
    }

    private String texts() {
        int nodes = random.nextInt(4) == 0 ? 2 + random.nextInt(10) : 3 + random.nextInt(6);
        int shape = random.nextInt(4);
        int size = shape == 0 ? 3 : shape == 3 ? 3 + random.nextInt(3) : 1 + random.nextInt(4);
        StringBuilder text = new StringBuilder("nodes " + nodes + ";");
        List<String> entries = new ArrayList<>();
        if (shape > 0 || random.nextBoolean()) {
            entries.add("shape " + List.of("triangle", "path " + size, "star " + size, "ring " + size).get(shape));
        }
        if (random.nextInt(4) > 0) {
            entries.add("all");
        }
        for (int i = random.nextInt(5); i > 0; i--) {
            entries.add(pick("line ", "less ") + row(nodes, 2));
        }
        int places = shape == 0 || shape == 3 ? size : size + 1;
        if (random.nextInt(3) == 0) {
            entries.add("part " + row(nodes, places));
        }
        for (int i = random.nextInt(3) == 0 ? random.nextInt(5) : 1; i > 0; i--) {
            entries.add("base " + row(random.nextBoolean() ? nodes : 31, places));
        }
        if (random.nextInt(4) > 0) {
            java.util.Collections.shuffle(entries, random);
        }
        for (String entry : entries) {
            text.append(pick("", "", " ", "  ")).append(entry).append(pick("", "", " ")).append(';');
        }
        if (random.nextInt(3) == 0) {
            spoil(text);
        }
        if (text.length() > 300) {
            text.setLength(300);
        }
        return text.toString();
    }

    /** Words and numbers as a text has them, each one now and then another than can stand there. */
    private String faultyText() {
        int rate = random.nextInt(3) == 0 ? 0 : 6 + random.nextInt(40);
        int nodes = 2 + random.nextInt(10);
        StringBuilder text = new StringBuilder();
        loose(text, rate, "nodes", Integer.toString(nodes), ";");
        int places = 3;
        for (int entries = random.nextInt(9); entries > 0; entries--) {
            switch (random.nextInt(7)) {
                case 0 -> loose(text, rate, "all", ";");
                case 1, 2 -> loose(text, rate, (pick("line ", "less ") + row(nodes, 2) + " ;").split(" "));
                case 3 -> loose(text, rate, (pick("part ", "part ", "line ") + row(nodes, places) + " ;").split(" "));
                case 4, 5 -> loose(text, rate, ("base " + row(31, places) + " ;").split(" "));
                default -> {
                    String size = Integer.toString(1 + random.nextInt(5));
                    String shape = pick("triangle", "path " + size, "star " + size, "ring " + size);
                    places = shape.startsWith("t") ? 3 : size.charAt(0) - '0' + (shape.startsWith("r") ? 0 : 1);
                    loose(text, rate, ("shape " + shape + " ;").split(" "));
                }
            }
        }
        text.append(pick("", "", " ", "   "));
        text.setLength(Math.min(300, text.length()));
        return text.toString();
    }

    /** Puts the tokens behind the text, of so many one amiss (rate 0: none). */
    private void loose(StringBuilder text, int rate, String... tokens) {
        for (String token : tokens) {
            boolean amiss = rate > 0 && random.nextInt(rate) == 0;
            boolean close = text.length() > 0 && Character.isLetterOrDigit(text.charAt(text.length() - 1))
                    && Character.isDigit(text.charAt(text.length() - 1)) == Character.isDigit(token.charAt(0));
            text.append(close || random.nextInt(4) == 0 ? pick(" ", " ", "  ") : "");
            if (Character.isDigit(token.charAt(0)) && random.nextInt(30) == 0) {
                text.append(pick("0", "00", "000000000000"));
            }
            text.append(!amiss ? token : pick("", token + token, token + " " + token, "0", "5", "11", "30", "31", "99999999999",
                    "4294967297", "al", "alls", "base", "part", "shape", "ring", "nodes", ";", ";;", ",", "-1", "A", "\t", "\u0000"));
        }
    }

    /** Bases that are good round the nodes, if some drawing comes to such; a path's may have a node again. */
    private String roundText() {
        int nodes = 3 + random.nextInt(9);
        int differences = (nodes - 1) / 2;
        int bases = differences % 2 == 0 && random.nextBoolean() ? 2 : random.nextInt(4) == 0 ? differences : 1;
        int size = bases > 4 ? differences : differences / bases;
        boolean ring = size == 5 || size >= 3 && random.nextBoolean();
        String head = "nodes " + nodes + ";all;shape " + (ring ? "ring " : pick("path ", "star ")) + size + ";";
        String text = head;
        for (int tries = 0; tries < 300 && !isGood(text, nodes); tries++) {
            StringBuilder drawn = new StringBuilder(head);
            for (int base = 0; base < differences / size; base++) {
                drawn.append("base ").append(row(random.nextInt(3) == 0 ? 31 : nodes, ring ? size : size + 1)).append(';');
            }
            text = drawn.toString();
        }
        return text;
    }

    private static boolean isGood(String text, int nodes) {
        Model model = new Model();
        for (int[] five : Due.numbers(text)) {
            model.feed(five);
        }
        return model.text(text.length()) >= 0 && model.good(nodes) == PartedNet.NONE;
    }

    private String row(int nodes, int count) {
        List<Integer> pool = new ArrayList<>();
        for (int i = 0; i < nodes; i++) {
            pool.add(i);
        }
        java.util.Collections.shuffle(pool, random);
        StringBuilder row = new StringBuilder();
        for (int i = 0; i < count; i++) {
            row.append(i == 0 ? "" : " ").append(pool.get(i % nodes));
        }
        return row.toString();
    }

    private void spoil(StringBuilder text) {
        for (int i = random.nextInt(3); i >= 0 && text.length() > 0; i--) {
            int at = random.nextInt(text.length());
            switch (random.nextInt(5)) {
                case 0 -> text.deleteCharAt(at);
                case 1 -> text.insert(at, pick(" ", ";", "0", "9", "a", "x", "-", "\t", "\u00e9"));
                case 2 -> text.setCharAt(at, pick(" ", ";", "0", "1", "7", "e", "l").charAt(0));
                case 3 -> text.setLength(at);
                default -> text.append(pick("all;", "base 1 2 3;", "shape path 2;", "line 0 1;", "part 0 1 2 3 4 5;", " "));
            }
        }
    }
}
