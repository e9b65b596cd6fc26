import java.util.ArrayList;
import java.util.List;
import java.util.NoSuchElementException;
import java.util.function.Supplier;

/** What the tests share: a call, its due answer, and the count of those that are not as due. */
final class Due {
    interface Call {
        long run();
    }

    interface Ask {
        long of(PartedNet net);
    }

    /** In the order of status(). */
    static final int MISSING = 0;
    static final int UNFIT = 1;
    static final int UNTIMELY = 2;
    private static final String[] REFUSALS = {"throws.NoSuchElementException", "throws.IllegalArgumentException",
        "throws.IllegalStateException"};

    private int wrong = 0;
    private int asked = 0;
    private String sentence = "";

    /** The sentence of the document that the answers behind this are about. */
    void promise(int number, String words) {
        sentence = "promise " + number + " (" + words + "): ";
    }

    void same(String call, long got, long want) {
        sameText(call, Long.toString(got), Long.toString(want));
    }

    void sameText(String call, String got, String want) {
        asked++;
        if (!got.equals(want)) {
            wrong++;
            System.out.println(sentence + call + " answered " + got + ", due is " + want);
        }
    }

    void refused(String call, Class<? extends RuntimeException> due, Call run) {
        sameText(call, outcome(run), "throws." + due.getSimpleName());
    }

    /** The call is refused so, status() counts it, and all else is as on a like object that was not asked. */
    void refusedAlone(String call, int reason, Supplier<PartedNet> maker, Ask ask) {
        PartedNet net = maker.get();
        PartedNet twin = maker.get();
        sameText(call, outcome(() -> ask.of(net)), REFUSALS[reason]);
        for (int what = 0; what < 3; what++) {
            same(call + ", then status(" + what + ")", net.status(what), twin.status(what) + (what == reason ? 1 : 0));
        }
        sameText(call + ", then all there is", used(net), used(twin));
    }

    /** The call answers so, and all is then as on a like object that was not asked. */
    void changesNothing(String call, long due, Supplier<PartedNet> maker, Ask ask) {
        PartedNet net = maker.get();
        PartedNet twin = maker.get();
        same(call, ask.of(net), due);
        for (int what = 0; what < 3; what++) {
            same(call + ", then status(" + what + ")", net.status(what), twin.status(what));
        }
        sameText(call + ", then all there is", used(net), used(twin));
    }

    /** All that an object holds, its acts and its tape too; they are used up with it. */
    static String used(PartedNet net) {
        StringBuilder all = new StringBuilder(held(net));
        int bytes = net.told(7);
        while (net.undo() != PartedNet.NONE) {
            all.append(" | ").append(held(net));
        }
        return all.append(" | ").append(net.text(bytes)).append(" at ").append(net.fault()).toString();
    }

    /** What an object holds now, in few calls: an object has 512. */
    static String held(PartedNet net) {
        StringBuilder held = new StringBuilder();
        for (int what = 0; what <= 8; what++) {
            held.append(net.told(what)).append(' ');
        }
        held.append(net.fault()).append(' ').append(net.left()).append(' ').append(net.print());
        for (int base = 0; base < net.told(6); base++) {
            int node = net.base(base, 0);
            for (int i = 1; node != PartedNet.NONE; i++) {
                held.append(' ').append(node);
                node = net.base(base, i);
            }
        }
        return held.toString();
    }

    void missing(String call, Call run) {
        refused(call, NoSuchElementException.class, run);
    }

    void unfit(String call, Call run) {
        refused(call, IllegalArgumentException.class, run);
    }

    void untimely(String call, Call run) {
        refused(call, IllegalStateException.class, run);
    }

    void holds(String what, boolean it) {
        same(what, it ? 1 : 0, 1);
    }

    /** The answer, or throws. and the exception's name. */
    static String outcome(Call run) {
        try {
            return Long.toString(run.run());
        } catch (RuntimeException e) {
            return "throws." + e.getClass().getSimpleName();
        }
    }

    /** Feeds a text, filled up with bytes 0, and has as many bytes of it read as it has. */
    static int tell(PartedNet net, String text) {
        feed(net, text);
        return net.text(text.length());
    }

    static int feed(PartedNet net, String text) {
        int fed = 0;
        for (int[] five : numbers(text)) {
            fed = net.feed(five[0], five[1], five[2], five[3], five[4]);
        }
        return fed;
    }

    /** The numbers, five a call, that bring a text on the tape. */
    static List<int[]> numbers(String text) {
        List<int[]> calls = new ArrayList<>();
        for (int from = 0; from < text.length(); from += 20) {
            int[] five = new int[5];
            for (int i = 0; i < 20; i++) {
                int sign = from + i < text.length() ? text.charAt(from + i) & 255 : 0;
                five[i / 4] = five[i / 4] << 8 | sign;
            }
            calls.add(five);
        }
        return calls;
    }

    static PartedNet told(String text) {
        PartedNet net = new PartedNet();
        int left = tell(net, text);
        if (left < 0) {
            throw new AssertionError("fault " + (left + 10) + " at " + net.fault() + " of: " + text);
        }
        return net;
    }

    /** All that can be asked without a refusal, as one text. */
    static String view(PartedNet net) {
        StringBuilder view = new StringBuilder();
        for (int what = 0; what <= 8; what++) {
            view.append(net.told(what)).append(' ');
        }
        view.append(net.fault()).append(' ').append(net.left()).append(' ').append(net.print()).append(' ');
        view.append(net.parts(0)).append(' ').append(net.parts(1)).append(' ').append(net.tests());
        for (int a = 0; a < net.told(0); a++) {
            for (int b = 0; b < net.told(0); b++) {
                if (a != b) {
                    view.append(' ').append(net.line(a, b, 1)).append(net.line(a, b, 2));
                }
            }
        }
        for (int part = 0; part < net.told(4); part++) {
            for (int i = 0; i < net.told(3); i++) {
                view.append(' ').append(net.part(part, i));
            }
        }
        for (int base = 0; base < net.told(6); base++) {
            for (int i = 0; i < 5; i++) {
                view.append(' ').append(net.base(base, i));
            }
        }
        return view.toString();
    }

    void end() {
        System.out.println(asked + " answers looked at, " + wrong + " not as due");
        if (wrong != 0) {
            System.exit(1);
        }
    }
}
