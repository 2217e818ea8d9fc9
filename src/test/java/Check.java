/** What the tests share: typing texts, comparing answers, and ending with the right exit code. */
final class Check {
    static final int NOTHING = 0;
    static final int ARGUMENT = 1;
    static final int STATE = 2;
    static final int OTHER = 3;

    static final int[] NO_MODULES = {-1, 4, Integer.MIN_VALUE, Integer.MAX_VALUE};

    private static final int MOST_TOLD = 40;
    private static int wrong = 0;
    private static String sentence = "";

    interface Call {
        void run();
    }

    private Check() {
    }

    /** Names the words of the document that the checks from here on hold the class to. */
    static void sentence(String words) {
        sentence = "[" + words + "] ";
    }

    static void due(String what, long got, long want) {
        due(what, Long.toString(got), Long.toString(want));
    }

    static void due(String what, String got, String want) {
        if (!got.equals(want)) {
            wrong++;
            if (wrong <= MOST_TOLD) {
                System.out.println(sentence + what + " answered " + got + ", due is " + want);
            }
        }
    }

    static void thrown(String what, int want, Call call) {
        int got = NOTHING;
        try {
            call.run();
        } catch (IllegalArgumentException e) {
            got = e.getClass() == IllegalArgumentException.class ? ARGUMENT : OTHER;
        } catch (IllegalStateException e) {
            got = e.getClass() == IllegalStateException.class ? STATE : OTHER;
        } catch (RuntimeException e) {
            got = OTHER;
        }
        due(what + " throws (1 IllegalArgument, 2 IllegalState, 3 another, 0 nothing)", got, want);
    }

    static int four(String text, int from) {
        int value = 0;
        for (int k = from; k < from + 4; k++) {
            value = value << 8 | (k < text.length() ? text.charAt(k) : 0);
        }
        return value;
    }

    static void type(ThumbLinker x, String text) {
        for (int k = 0; k < text.length(); k += 16) {
            x.type(four(text, k), four(text, k + 4), four(text, k + 8), four(text, k + 12));
        }
    }

    static void add(ThumbLinker x, int module, String... lines) {
        for (String line : lines) {
            type(x, line);
            x.add(module);
        }
    }

    /** A new object with these lines in module 0. */
    static ThumbLinker with(String... lines) {
        ThumbLinker x = new ThumbLinker();
        add(x, 0, lines);
        return x;
    }

    /** An object whose module 0 has main, then this line as line 2, then a word that it may refer to. */
    static ThumbLinker around(String line) {
        return with("main:", ".global main", line, ".align", "tail: .word 0");
    }

    /** A line that no fault is told of: the code that it gives, or the first two bytes. */
    static int within(String line) {
        ThumbLinker x = around(line);
        int length = x.link();
        due("'" + line + "' links (0 if it does)", length < 0 ? length : 0, 0);
        due("'" + line + "' fault(1)", x.fault(1), ThumbLinker.NONE);
        return half(x, 8);
    }

    static void code(String line, int want) {
        due("code of '" + line + "'", Integer.toHexString(within(line)), Integer.toHexString(want));
    }

    static void outside(String line, int kind, int place) {
        fault(around(line), "'" + line + "'", kind, 0, 2, place);
    }

    static void fault(ThumbLinker x, String what, int kind, int module, int line, int place) {
        due(what + ": link()", x.link(), kind);
        due(what + ": fault(0)", x.fault(0), module);
        due(what + ": fault(1)", x.fault(1), line);
        due(what + ": fault(2)", x.fault(2), place);
    }

    static void linked(ThumbLinker x, String what, int length) {
        fault(x, what, length, ThumbLinker.NONE, ThumbLinker.NONE, ThumbLinker.NONE);
    }

    /** The image's bytes from one place up to another, as hexadecimal digits. */
    static String bytes(ThumbLinker x, int from, int to) {
        StringBuilder all = new StringBuilder();
        for (int k = from; k < to; k++) {
            all.append(x.octet(k) < 0 ? "--" : String.format("%02X", x.octet(k)));
        }
        return all.toString();
    }

    static int half(ThumbLinker x, int place) {
        return x.octet(place) | x.octet(place + 1) << 8;
    }

    static int word(ThumbLinker x, int place) {
        return half(x, place) | half(x, place + 2) << 16;
    }

    static int address(ThumbLinker x, int module, String name) {
        x.erase();
        type(x, name);
        return x.address(module);
    }

    static String hexText(ThumbLinker x, int from, int to) {
        StringBuilder all = new StringBuilder();
        for (int k = from; k < to; k++) {
            all.append(x.hex(k));
        }
        return all.toString();
    }

    static void finish() {
        if (wrong != 0) {
            System.out.println(wrong + " answers are not as due");
            System.exit(1);
        }
    }
}
