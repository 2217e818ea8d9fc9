/** Promises 1 to 12: the edges that each one names. */
public final class PromiseEdgesTest {
    private static final int FULL = 0x61616161;

    public static void main(String[] args) {
        newObject();
        type();
        typeZeroBytes();
        typeTooMuch();
        erase();
        add();
        addTooMuch();
        change();
        drop();
        link();
        linkWithFault();
        fault();
        faultOfTheLastLink();
        octet();
        hex();
        address();
        addressOfTheLastLink();
        size();
        lastCall();
        Check.finish();
    }

    private static void newObject() {
        Check.sentence("Promise 1: MODULES without LINES, nothing typed, an empty IMAGE");
        ThumbLinker x = new ThumbLinker();
        Check.due("type of nothing", x.type(0, 0, 0, 0), 0);
        Check.due("erase()", x.erase(), 0);
        for (int k : new int[] {0, 1, 7, 8, 2047}) {
            Check.due("octet(" + k + ")", x.octet(k), -1);
            Check.due("hex(" + k + ")", x.hex(k), ' ');
        }
        for (int m = 0; m <= 3; m++) {
            int module = m;
            Check.thrown("change(" + m + ", 0)", Check.ARGUMENT, () -> x.change(module, 0));
            Check.due("drop(" + m + ")", x.drop(m), 0);
            Check.due("add(" + m + ")", x.add(m), 1);
            Check.due("address(" + m + ")", x.address(m), -1);
            Check.due("size(" + m + ", 0)", x.size(m, 0), 0);
            Check.due("size(" + m + ", 1)", x.size(m, 1), 0);
            Check.due("size(" + m + ", 2)", x.size(m, 2), 0);
        }
    }

    private static void type() {
        Check.sentence("Promise 2: Up to sixteen characters more are typed: four in each number, the highest byte first");
        ThumbLinker x = new ThumbLinker();
        Check.due("sixteen", x.type(0x2020206d, 0x61696e20, 0x20202020, 0x2020203a), 16);
        Check.due("add", x.add(0), 1);
        Check.due("sixteen", x.type(0x2e676c6f, 0x62616c20, 0x20202020, 0x20206d61), 16);
        Check.due("two", x.type(0, 0, 0, 0x696e), 18);
        Check.due("add", x.add(0), 2);
        Check.linked(x, "main", 8);
        Check.due("the highest byte", x.type(0x6d000000, 0, 0, 0), 1);
        Check.due("the next", x.type(0, 0x610000, 0, 0), 2);
        Check.due("the next", x.type(0, 0, 0x6900, 0), 3);
        Check.due("the lowest", x.type(0, 0, 0, 0x6e), 4);
        Check.due("address", x.address(0), 8);
    }

    private static void typeZeroBytes() {
        Check.sentence("Promise 2: a byte 0 is none. How many there are");
        for (int mask = 0; mask < 16; mask++) {
            int value = (mask & 8) << 21 | (mask & 4) << 14 | (mask & 2) << 7 | mask & 1;
            for (int place = 0; place < 4; place++) {
                ThumbLinker x = new ThumbLinker();
                int[] four = {0, 0, 0, 0};
                four[place] = 0xFF * value;
                Check.due("type of bytes " + mask + " in number " + place, x.type(four[0], four[1], four[2], four[3]),
                    Integer.bitCount(mask));
                Check.due("type of nothing", x.type(0, 0, 0, 0), Integer.bitCount(mask));
            }
        }
        for (int c = 1; c < 256; c++) {
            Check.due("type of character " + c, new ThumbLinker().type(0, c << 16, 0, 0), 1);
        }
    }

    private static void typeTooMuch() {
        Check.sentence("Promise 2: IllegalState: there would be more than 48");
        for (int there = 0; there <= 48; there++) {
            for (int more = 0; more <= 16; more++) {
                ThumbLinker x = new ThumbLinker();
                Check.type(x, "a".repeat(there));
                String text = "a".repeat(more);
                int want = there + more > 48 ? Check.STATE : Check.NOTHING;
                Check.thrown("type of " + more + " behind " + there, want, () -> x.type(Check.four(text, 0),
                    Check.four(text, 4), Check.four(text, 8), Check.four(text, 12)));
                Check.due("how many there are", x.erase(), want == Check.STATE ? there : there + more);
            }
        }
    }

    private static void erase() {
        Check.sentence("Promise 3: What was typed is gone: how many characters");
        ThumbLinker x = Check.with("main:", ".global main");
        Check.due("erase of none", x.erase(), 0);
        x.type('x', 0, 0, 0);
        Check.due("erase of one", x.erase(), 1);
        Check.due("erase again", x.erase(), 0);
        for (int k = 0; k < 3; k++) {
            x.type(FULL, FULL, FULL, FULL);
        }
        Check.due("erase of 48", x.erase(), 48);
        Check.due("type of sixteen then", x.type(FULL, FULL, FULL, FULL), 16);
        Check.due("erase of them", x.erase(), 16);
        Check.due("add of what is left", x.add(0), 3);
        Check.linked(x, "an empty line", 8);
        Check.type(x, "movs r1,r2");
        x.erase();
        Check.add(x, 0, "movs r1,");
        Check.fault(x, "nothing of what is gone is read", ThumbLinker.SIGN, 0, 3, 8);
    }

    private static void add() {
        Check.sentence("Promise 4: What was typed is one more LINE of a MODULE, and nothing is typed then:"
            + " how many it has");
        ThumbLinker x = new ThumbLinker();
        for (int k = 1; k <= 24; k++) {
            for (int m = 0; m <= 3; m++) {
                Check.type(x, k == 1 && m == 3 ? "main: nop" : k == 2 && m == 3 ? ".global main" : "nop");
                Check.due("add(" + m + ") of line " + k, x.add(m), k);
                Check.due("what is typed then", x.type(0, 0, 0, 0), 0);
            }
        }
        Check.linked(x, "96 lines", 8 + 95 * 2);
        Check.due("main", Check.word(x, 4), 8 + 3 * 48 + 1);
    }

    private static void addTooMuch() {
        Check.sentence("Promise 4: IllegalArgument. IllegalState: it has 24");
        for (int m = 0; m <= 3; m++) {
            int module = m;
            ThumbLinker x = new ThumbLinker();
            for (int k = 1; k <= 24; k++) {
                Check.due("add of line " + k, x.add(m), k);
            }
            Check.type(x, "typed");
            Check.thrown("add of line 25", Check.STATE, () -> x.add(module));
            for (int none : Check.NO_MODULES) {
                Check.thrown("add(" + none + ")", Check.ARGUMENT, () -> x.add(none));
            }
            Check.due("what is typed", x.erase(), 5);
            Check.due("add to another", x.add((m + 1) % 4), 1);
            Check.due("drop", x.drop(m), 24);
            Check.due("add then", x.add(m), 1);
        }
    }

    private static void change() {
        Check.sentence("Promise 5: A LINE of a MODULE, from 0 on, becomes what was typed, which is gone then."
            + " IllegalArgument: there is no such MODULE, or LINE");
        for (int lines = 0; lines <= 24; lines++) {
            ThumbLinker x = new ThumbLinker();
            for (int k = 0; k < lines; k++) {
                x.add(2);
            }
            Check.type(x, "?");
            int[] none = {-1, lines, lines + 1, 24, Integer.MIN_VALUE, Integer.MAX_VALUE};
            for (int line : none) {
                Check.thrown("change(2, " + line + ") of " + lines, Check.ARGUMENT, () -> x.change(2, line));
            }
            Check.thrown("change(3, 0)", Check.ARGUMENT, () -> x.change(3, 0));
            for (int m : Check.NO_MODULES) {
                Check.thrown("change(" + m + ", 0)", Check.ARGUMENT, () -> x.change(m, 0));
            }
            Check.due("what is typed after throws", x.type(0, 0, 0, 0), 1);
            Check.fault(x, "no line is changed", ThumbLinker.UNKNOWN, -1, -1, -1);
            for (int line = lines - 1; line >= 0; line--) {
                x.erase();
                Check.type(x, " ?");
                x.change(2, line);
                Check.due("what is typed then", x.type(0, 0, 0, 0), 0);
                Check.fault(x, "line " + line + " is changed", ThumbLinker.SIGN, 2, line, 1);
            }
            x.erase();
            Check.due("how many lines", x.drop(2), lines);
        }
    }

    private static void drop() {
        Check.sentence("Promise 6: A MODULE has no LINES: how many it had. IllegalArgument");
        for (int lines = 0; lines <= 24; lines++) {
            ThumbLinker x = new ThumbLinker();
            for (int k = 0; k < lines; k++) {
                Check.add(x, 1, "?");
            }
            Check.add(x, 0, "main:", ".global main");
            Check.type(x, "abc");
            for (int m : Check.NO_MODULES) {
                Check.thrown("drop(" + m + ")", Check.ARGUMENT, () -> x.drop(m));
            }
            Check.due("drop of " + lines, x.drop(1), lines);
            Check.due("drop again", x.drop(1), 0);
            Check.thrown("change of line 0", Check.ARGUMENT, () -> x.change(1, 0));
            Check.due("what is typed", x.erase(), 3);
            Check.linked(x, "the others stay", 8);
            Check.due("add", x.add(1), 1);
            Check.linked(x, "an empty line", 8);
        }
    }

    private static void link() {
        Check.sentence("Promise 7: All is assembled and LINKED: how many bytes THE IMAGE has");
        ThumbLinker x = Check.with("main:", ".global main");
        Check.linked(x, "the fewest", 8);
        Check.type(x, "typed");
        Check.linked(x, "again", 8);
        Check.due("what link leaves typed", x.erase(), 5);
        x.drop(0);
        Check.add(x, 0, "main:", ".global main");
        Check.add(x, 0, ".space 512", ".space 512");
        Check.add(x, 1, ".space 512", ".space 504");
        Check.linked(x, "the most", 2048);
    }

    private static void linkWithFault() {
        Check.sentence("Promise 7: or a FAULT (THE IMAGE, and what LABELS have, stay as they were)");
        String[][] faulty = {{"x:", "x:"}, {"?"}, {".byte 256"}, {".data", "nop"}, {".byte 1", "nop"},
            {".space 512", ".space 512", ".space 1"}, {".global q"}, {"d:", ".global d", ".global d"},
            {".bss", ".space 512", ".space 512"}, {"b q"}, {".bss", "y:", ".text", "b y"}};
        for (String[] lines : faulty) {
            ThumbLinker x = Check.with("main: nop", ".global main", ".data", "d: .byte 7");
            Check.linked(x, "before", 13);
            Check.add(x, 1, "nop", ".data", "d: .byte 9", ".text");
            Check.add(x, 1, lines);
            kept(x, lines[0]);
            x.drop(0);
            x.drop(1);
            kept(x, "no main");
        }
    }

    private static void kept(ThumbLinker x, String what) {
        Check.due("link() with " + what + " has a fault", x.link() < 0 ? 1 : 0, 1);
        Check.due("image after " + what, Check.bytes(x, 0, 14), "000400200900000000BF000007--");
        Check.due("hex after " + what, Check.hexText(x, 0, 73), ":020000040000FA\n"
            + ":0D000000000400200900000000BF000007" + "00\n" + ":00000001FF\n" + "       ");
        Check.due("main after " + what, Check.address(x, 0, "main"), 8);
        Check.due("d after " + what, Check.address(x, 0, "d"), 0x20000000);
        Check.due("d of module 1 after " + what, Check.address(x, 1, "d"), -1);
        x.erase();
        int[] sizes = {2, 1, 0};
        for (int k = 0; k < 3; k++) {
            Check.due("size(0, " + k + ") after " + what, x.size(0, k), sizes[k]);
            Check.due("size(1, " + k + ") after " + what, x.size(1, k), 0);
        }
    }

    private static void fault() {
        Check.sentence("Promise 8: Of the last FAULT: what = 0 its MODULE, 1 its LINE, 2 its place .. IllegalArgument: another what");
        ThumbLinker x = new ThumbLinker();
        for (int what : new int[] {-1, 3, 4, Integer.MIN_VALUE, Integer.MAX_VALUE}) {
            Check.thrown("fault(" + what + ")", Check.ARGUMENT, () -> x.fault(what));
        }
        for (int k = 0; k < 23; k++) {
            x.add(3);
        }
        Check.add(x, 3, " ".repeat(47) + "?");
        Check.fault(x, "the last module, line and place", ThumbLinker.SIGN, 3, 23, 47);
        for (int what : new int[] {-1, 3}) {
            Check.thrown("fault(" + what + ")", Check.ARGUMENT, () -> x.fault(what));
        }
        Check.add(x, 0, "?");
        Check.fault(x, "the first module, line and place", ThumbLinker.SIGN, 0, 0, 0);
        x.drop(0);
        Check.type(x, "movs" + " ".repeat(44));
        x.change(3, 0);
        Check.fault(x, "the length of 48", ThumbLinker.SIGN, 3, 0, 48);
    }

    private static void faultOfTheLastLink() {
        Check.sentence("Promise 8: NONE if the last link had none, or it is in no MODULE");
        ThumbLinker x = new ThumbLinker();
        none(x, "before a link");
        Check.add(x, 1, "main:", ".global main", "?");
        none(x, "before a link");
        Check.fault(x, "SIGN", ThumbLinker.SIGN, 1, 2, 0);
        x.change(1, 2);
        Check.due("until the next link", x.fault(1), 2);
        Check.linked(x, "none", 8);
        Check.add(x, 1, "?");
        none(x, "until the next link");
        Check.fault(x, "SIGN", ThumbLinker.SIGN, 1, 3, 0);
        x.drop(1);
        Check.fault(x, "no main", ThumbLinker.UNKNOWN, -1, -1, -1);
        Check.add(x, 1, "?");
        Check.fault(x, "SIGN", ThumbLinker.SIGN, 1, 0, 0);
        x.drop(1);
        Check.add(x, 1, ".data", ".space 512", ".bss", ".space 512", ".space 1");
        Check.fault(x, "RAM of 1025", ThumbLinker.ROOM, -1, -1, -1);
    }

    private static void none(ThumbLinker x, String what) {
        for (int k = 0; k < 3; k++) {
            Check.due(what + ": fault(" + k + ")", x.fault(k), -1);
        }
    }

    private static void octet() {
        Check.sentence("Promise 9: Byte k of THE IMAGE; NONE");
        int[] lengths = {8, 9, 1032, 2047, 2048};
        for (int length : lengths) {
            ThumbLinker x = Check.with("main:", ".global main");
            int left = length - 8;
            for (int m = 0; left > 0; m++) {
                int n = Math.min(left, 512);
                Check.add(x, m, ".space " + (n - 1), ".byte 255");
                left -= n;
            }
            Check.linked(x, "an image of " + length, length);
            Check.due("octet(0)", x.octet(0), 0);
            Check.due("octet(3)", x.octet(3), 0x20);
            Check.due("octet(" + (length - 1) + ")", x.octet(length - 1), length == 8 ? 0 : 255);
            for (int k : new int[] {-1, length, length + 1, 2048, 4096, Integer.MIN_VALUE, Integer.MAX_VALUE}) {
                Check.due("octet(" + k + ") of " + length, x.octet(k), -1);
            }
        }
    }

    private static void hex() {
        Check.sentence("Promise 10: Character k of THE IMAGE's HEX; a space if there is none,"
            + " and before the first link that had no FAULT");
        ThumbLinker x = Check.with("?");
        String want = ":020000040000FA\n:080000000004002009000000CB\n:00000001FF\n";
        String blank = " ".repeat(want.length());
        Check.due("before a link", Check.hexText(x, 0, want.length()), blank);
        x.link();
        Check.due("before a link without a fault", Check.hexText(x, 0, want.length()), blank);
        x.drop(0);
        Check.add(x, 0, "main:", ".global main");
        Check.linked(x, "without a fault", 8);
        Check.due("then", Check.hexText(x, 0, want.length()), want);
        for (int k : new int[] {-1, -2, Integer.MIN_VALUE, want.length(), want.length() + 1, 5660, 5661,
            Integer.MAX_VALUE - 1, Integer.MAX_VALUE}) {
            Check.due("hex(" + k + ")", x.hex(k), ' ');
        }
        Check.add(x, 0, "?");
        x.link();
        Check.due("after a fault", Check.hexText(x, 0, want.length()), want);
    }

    private static void address() {
        Check.sentence("Promise 11: The address that a LABEL of a MODULE, whose NAME is what was typed, had .. NONE."
            + " IllegalArgument");
        ThumbLinker x = Check.with("main: nop", "a:", "abcdef:", "abcdeg: nop", ".global main");
        Check.add(x, 3, ".bss", "a: .space 1", "z:");
        Check.linked(x, "labels", 12);
        String[] names = {"main", "a", "abcdef", "abcdeg", "", "mai", "main1", "mains", "abcde", "abcdefg", "abcdefgh",
            "main:", " main", "main ", "Main", "a ", "z", "0", "\u00ff"};
        int[] want = {8, 10, 10, 10, -1, -1, -1, -1, -1, -1, -1, -1, -1, -1, -1, -1, -1, -1, -1};
        for (int k = 0; k < names.length; k++) {
            Check.due("address(0) of '" + names[k] + "'", Check.address(x, 0, names[k]), want[k]);
            Check.due("what is typed then", x.erase(), names[k].length());
        }
        Check.due("address(3) of 'a'", Check.address(x, 3, "a"), 0x20000000);
        Check.due("address(3) of 'z'", Check.address(x, 3, "z"), 0x20000001);
        Check.due("address(3) of 'main', global in another", Check.address(x, 3, "main"), -1);
        Check.due("address(1) of 'main'", Check.address(x, 1, "main"), -1);
        Check.due("address(0) of 48 characters", Check.address(x, 0, "main".repeat(12)), -1);
        for (int m : Check.NO_MODULES) {
            Check.thrown("address(" + m + ")", Check.ARGUMENT, () -> x.address(m));
        }
    }

    private static void addressOfTheLastLink() {
        Check.sentence("Promise 11: had in the last link that had no FAULT");
        ThumbLinker x = Check.with("nop", "main:", ".global main");
        Check.due("before a link", Check.address(x, 0, "main"), -1);
        Check.linked(x, "main", 10);
        Check.due("then", Check.address(x, 0, "main"), 10);
        x.erase();
        x.change(0, 0);
        Check.due("after a change", Check.address(x, 0, "main"), 10);
        x.erase();
        Check.linked(x, "main at 8", 8);
        Check.due("after the next link", Check.address(x, 0, "main"), 8);
        x.erase();
        Check.type(x, "x:");
        x.change(0, 0);
        Check.due("a label not linked yet", Check.address(x, 0, "x"), -1);
        x.drop(0);
        Check.due("after a drop", Check.address(x, 0, "x"), -1);
        Check.due("after a drop", Check.address(x, 0, "main"), 8);
        Check.due("a link with a fault", x.link(), ThumbLinker.UNKNOWN);
        Check.due("after it", x.address(0), 8);
        x.erase();
        Check.add(x, 1, "main:", ".global main");
        Check.linked(x, "main in module 1", 8);
        Check.due("a label that is gone", Check.address(x, 0, "main"), -1);
    }

    private static void size() {
        Check.sentence("Promise 12: Bytes in that link: what = 0 of TEXT, 1 of DATA, 2 of BSS, of a MODULE."
            + " IllegalArgument");
        ThumbLinker x = Check.with("main: .space 512", ".space 512", ".global main");
        Check.add(x, 1, ".space 3", ".align", ".data", ".space 5");
        Check.add(x, 2, ".bss", ".space 512", ".space 496", ".align");
        Check.add(x, 3, ".bss", "x:", ".data", ".align", ".byte 1");
        Check.linked(x, "sizes", 1045);
        int[][] want = {{1024, 0, 0}, {4, 5, 0}, {0, 0, 1008}, {0, 1, 0}};
        for (int m = 0; m <= 3; m++) {
            int module = m;
            for (int what = 0; what <= 2; what++) {
                Check.due("size(" + m + ", " + what + ")", x.size(m, what), want[m][what]);
            }
            for (int what : new int[] {-1, 3, Integer.MIN_VALUE, Integer.MAX_VALUE}) {
                Check.thrown("size(" + m + ", " + what + ")", Check.ARGUMENT, () -> x.size(module, what));
            }
        }
        for (int m : Check.NO_MODULES) {
            for (int what = -1; what <= 3; what++) {
                int each = what;
                Check.thrown("size(" + m + ", " + what + ")", Check.ARGUMENT, () -> x.size(m, each));
            }
        }
        x.drop(0);
        Check.due("size(0, 0) after a drop", x.size(0, 0), 1024);
        Check.due("a link with a fault", x.link(), ThumbLinker.UNKNOWN);
        Check.due("size(0, 0) after it", x.size(0, 0), 1024);
        Check.add(x, 3, "b: .text", "main:", ".global main");
        Check.linked(x, "the next", 21);
        Check.due("size(0, 0) then", x.size(0, 0), 0);
    }

    private static void lastCall() {
        Check.sentence("An object is used for at most 512 calls after it has been made");
        ThumbLinker x = Check.with("main: .byte 9", ".global main");
        Check.due("call 5", x.link(), 9);
        for (int call = 6; call < 512; call++) {
            Check.due("call " + call, call % 2 == 0 ? x.type('x', 0, 0, 0) : x.erase(), 1);
        }
        Check.due("call 512", x.octet(8), 9);
    }
}
