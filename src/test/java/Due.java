/** What the tests share: a call, its due answer, and the count of those that are not as due. */
final class Due {
    interface Call {
        long run();
    }

    private int wrong = 0;
    private int asked = 0;

    void same(String call, long got, long want) {
        asked++;
        if (got != want) {
            wrong++;
            System.out.println(call + " answered " + got + ", due is " + want);
        }
    }

    void refused(String call, Class<? extends RuntimeException> due, Call run) {
        String want = "throws." + due.getSimpleName();
        String got = outcome(run);
        asked++;
        if (!got.equals(want)) {
            wrong++;
            System.out.println(call + " answered " + got + ", due is " + want);
        }
    }

    void missing(String call, Call run) {
        refused(call, java.util.NoSuchElementException.class, run);
    }

    void unfit(String call, Call run) {
        refused(call, IllegalArgumentException.class, run);
    }

    void untimely(String call, Call run) {
        refused(call, IllegalStateException.class, run);
    }

    void holds(String what, boolean it) {
        same(what, it ? 1 : 0, 1);
    }

    /** The answer, or throws. and the exception's name. */
    static String outcome(Call run) {
        try {
            return Long.toString(run.run());
        } catch (RuntimeException e) {
            return "throws." + e.getClass().getSimpleName();
        }
    }

    /** Feeds a text, filled up with bytes 0, and has as many bytes of it read as it has. */
    static int tell(PartedNet net, String text) {
        feed(net, text);
        return net.text(text.length());
    }

    static int feed(PartedNet net, String text) {
        int fed = 0;
        for (int from = 0; from < text.length(); from += 20) {
            fed = net.feed(number(text, from), number(text, from + 4), number(text, from + 8),
                    number(text, from + 12), number(text, from + 16));
        }
        return fed;
    }

    private static int number(String text, int from) {
        int number = 0;
        for (int i = from; i < from + 4; i++) {
            number = number << 8 | (i < text.length() ? text.charAt(i) & 255 : 0);
        }
        return number;
    }

    static PartedNet told(String text) {
        PartedNet net = new PartedNet();
        int left = tell(net, text);
        if (left < 0) {
            throw new AssertionError("fault " + (left + 10) + " at " + net.fault() + " of: " + text);
        }
        return net;
    }

    /** All that can be asked without a refusal, as one text. */
    static String view(PartedNet net) {
        StringBuilder view = new StringBuilder();
        for (int what = 0; what <= 8; what++) {
            view.append(net.told(what)).append(' ');
        }
        view.append(net.fault()).append(' ').append(net.left()).append(' ').append(net.print()).append(' ');
        view.append(net.parts(0)).append(' ').append(net.parts(1)).append(' ').append(net.tests());
        for (int a = 0; a < net.told(0); a++) {
            for (int b = 0; b < net.told(0); b++) {
                if (a != b) {
                    view.append(' ').append(net.line(a, b, 1)).append(net.line(a, b, 2));
                }
            }
        }
        for (int part = 0; part < net.told(4); part++) {
            for (int i = 0; i < net.told(3); i++) {
                view.append(' ').append(net.part(part, i));
            }
        }
        for (int base = 0; base < net.told(6); base++) {
            for (int i = 0; i < 5; i++) {
                view.append(' ').append(net.base(base, i));
            }
        }
        return view.toString();
    }

    void end() {
        System.out.println(asked + " answers looked at, " + wrong + " not as due");
        if (wrong != 0) {
            System.exit(1);
        }
    }
}
