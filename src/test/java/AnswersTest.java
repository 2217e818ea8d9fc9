/** Promises 8 to 12: fault, octet, hex, address and size. */
public final class AnswersTest {
    public static void main(String[] args) {
        faults();
        octets();
        hexes();
        addresses();
        sizes();
        Check.finish();
    }

    private static void faults() {
        ThumbLinker x = new ThumbLinker();
        for (int what : new int[] {-1, 3, Integer.MIN_VALUE, Integer.MAX_VALUE}) {
            Check.thrown("fault(" + what + ")", Check.ARGUMENT, () -> x.fault(what));
        }
        Check.add(x, 2, "main:", ".global main", "  x");
        Check.fault(x, "SIGN", ThumbLinker.SIGN, 2, 2, 2);
        x.change(2, 2);
        Check.due("fault stays till the next link", x.fault(2), 2);
        Check.linked(x, "mended", 8);
        Check.add(x, 3, "b x");
        Check.fault(x, "UNKNOWN", ThumbLinker.UNKNOWN, 3, 0, 2);
        x.drop(3);
        x.drop(2);
        Check.fault(x, "in no module", ThumbLinker.UNKNOWN, -1, -1, -1);
    }

    private static void octets() {
        ThumbLinker x = Check.with("main: .byte 255", ".byte 128", ".global main");
        Check.linked(x, "octets", 10);
        int[] want = {0, 4, 0, 0x20, 9, 0, 0, 0, 255, 128, -1};
        for (int k = 0; k < want.length; k++) {
            Check.due("octet(" + k + ")", x.octet(k), want[k]);
        }
        for (int k : new int[] {-1, 2047, 2048, Integer.MIN_VALUE, Integer.MAX_VALUE}) {
            Check.due("octet(" + k + ")", x.octet(k), -1);
        }
        x.drop(0);
        Check.add(x, 0, "main:", ".global main");
        Check.linked(x, "a shorter image", 8);
        Check.due("octet(8)", x.octet(8), -1);
    }

    private static void records(int space, String want) {
        ThumbLinker x = Check.with("main: .space " + space, ".global main");
        Check.due("hex before link", x.hex(0), ' ');
        Check.linked(x, "hex of " + space, 8 + space);
        Check.due("hex of " + space, Check.hexText(x, 0, want.length()), want);
        for (int k : new int[] {-1, want.length(), want.length() + 1, Integer.MIN_VALUE, Integer.MAX_VALUE}) {
            Check.due("hex(" + k + ")", x.hex(k), ' ');
        }
    }

    private static void hexes() {
        String first = ":020000040000FA\n";
        String last = ":00000001FF\n";
        records(0, first + ":0800000000040020090000" + "00CB\n" + last);
        records(8, first + ":1000000000040020090000000000000000000000C3\n" + last);
        records(9, first + ":1000000000040020090000000000000000000000C3\n" + ":0100100000EF\n" + last);
        ThumbLinker x = Check.with("main: .space 512", ".global main", ".byte -1", ".byte 171");
        Check.linked(x, "long", 522);
        int from = 16 + 44 * 32;
        Check.due("the last records", Check.hexText(x, from, from + 60), ":0A02000000000000000000" + "00FFAB4A\n" + last
            + "                ");
        Check.due("address of record 17", Check.hexText(x, 16 + 44 * 17, 16 + 44 * 17 + 9), ":10011000");
        Check.add(x, 1, "foo");
        x.link();
        Check.due("hex after a fault", Check.hexText(x, 0, 16), first);
    }

    private static void addresses() {
        ThumbLinker x = Check.with("nop", "main: nop", ".global main", ".data", ".byte 1", "d: .byte 1", ".bss",
            "abcde9:");
        Check.due("address before link", Check.address(x, 0, "main"), -1);
        Check.linked(x, "addresses", 14);
        Check.due("main", Check.address(x, 0, "main"), 10);
        Check.due("address keeps what is typed", x.erase(), 4);
        Check.due("d", Check.address(x, 0, "d"), 0x20000001);
        Check.due("abcde9", Check.address(x, 0, "abcde9"), 0x20000004);
        Check.due("of another module", Check.address(x, 1, "main"), -1);
        String[] none = {"", "mai", "mainx", "main:", " main", "main ", "abcde9x", "nop", "Main", "1"};
        for (String name : none) {
            Check.due("'" + name + "'", Check.address(x, 0, name), -1);
        }
        Check.due("address of 48 characters", Check.address(x, 0, "mainmainmainmainmainmainmainmainmainmainmainmain"),
            -1);
        for (int m : Check.NO_MODULES) {
            Check.thrown("address(" + m + ")", Check.ARGUMENT, () -> x.address(m));
        }
        x.drop(0);
        Check.due("main after drop", Check.address(x, 0, "main"), 10);
        x.erase();
        Check.add(x, 3, "main:", ".global main");
        Check.linked(x, "main in module 3", 8);
        Check.due("main of module 0 then", Check.address(x, 0, "main"), -1);
        Check.due("main of module 3", Check.address(x, 3, "main"), 8);
    }

    private static void sizes() {
        ThumbLinker x = Check.with("main: nop", ".global main", ".data", ".byte 1", ".bss", ".space 3");
        Check.add(x, 3, "bl main", "nop", ".align", ".data", ".space 7");
        Check.due("size before link", x.size(0, 0), 0);
        Check.linked(x, "sizes", 31);
        int[][] want = {{2, 1, 3}, {0, 0, 0}, {0, 0, 0}, {8, 7, 0}};
        for (int m = 0; m < 4; m++) {
            for (int what = 0; what < 3; what++) {
                Check.due("size(" + m + ", " + what + ")", x.size(m, what), want[m][what]);
            }
        }
        for (int m : Check.NO_MODULES) {
            Check.thrown("size(" + m + ", 0)", Check.ARGUMENT, () -> x.size(m, 0));
        }
        for (int what : new int[] {-1, 3, Integer.MIN_VALUE, Integer.MAX_VALUE}) {
            Check.thrown("size(0, " + what + ")", Check.ARGUMENT, () -> x.size(0, what));
        }
        x.drop(3);
        Check.due("size after drop", x.size(3, 1), 7);
        Check.linked(x, "sizes again", 13);
        Check.due("size after the next link", x.size(3, 1), 0);
    }
}
