import java.util.Arrays;

/** 'Terms', LINKING: where each SECTION begins, what FLASH and RAM have room for, and where THE IMAGE ends. */
public final class LinkEdgesTest {
    private static final int RAM = 0x20000000;

    public static void main(String[] args) {
        flash();
        flashWithGaps();
        vectors();
        mains();
        modulesInOrder();
        multiplesOfFour();
        ram();
        ramWithGaps();
        ramInOrder();
        withoutBytes();
        withoutBytesAtTheEnd();
        imageEnds();
        Check.finish();
    }

    /** An object whose module m has this many bytes of TEXT, DATA and BSS; main is in module 0. */
    private static ThumbLinker sized(int[]... sizes) {
        ThumbLinker x = Check.with("main:", ".global main");
        for (int m = 0; m < sizes.length; m++) {
            String[] sections = {".text", ".data", ".bss"};
            for (int k = 0; k < sizes[m].length; k++) {
                int n = sizes[m][k];
                Check.add(x, m, sections[k], ".space " + Math.min(n, 512), ".space " + Math.max(0, n - 512));
            }
        }
        return x;
    }

    private static void linked(int length, int[]... sizes) {
        Check.linked(sized(sizes), Arrays.deepToString(sizes), length);
    }

    private static void noRoom(int[]... sizes) {
        Check.fault(sized(sizes), Arrays.deepToString(sizes), ThumbLinker.ROOM, -1, -1, -1);
    }

    private static int[] of(int... sizes) {
        return sizes;
    }

    private static void flash() {
        Check.sentence("FLASH has 2048 bytes from address 0");
        linked(2047, of(1024), of(1015));
        linked(2048, of(1024), of(1016));
        noRoom(of(1024), of(1017));
        linked(2048, of(512), of(512), of(512), of(504));
        noRoom(of(512), of(512), of(512), of(505));
        linked(2048, of(1016, 1024));
        noRoom(of(1020, 1024));
        linked(2048, of(1020, 512), of(0, 508));
        noRoom(of(1020, 512), of(0, 509));
        linked(2048, of(1024, 0, 1024), of(1016));
    }

    private static void flashWithGaps() {
        Check.sentence("each from a multiple of 4 on (0 between)");
        linked(2045, of(1024), of(1013));
        linked(2045, of(1024), of(1009, 1));
        noRoom(of(1024), of(1013, 1));
        linked(2048, of(1021), of(1016));
        noRoom(of(1021), of(1017));
        linked(2048, of(1020, 1), of(0, 1016));
        noRoom(of(1020, 1), of(0, 1017));
        linked(2048, of(1021, 1), of(0, 1012));
        noRoom(of(1021, 1), of(0, 1013));
    }

    private static void vectors() {
        Check.sentence("the words 20000400h and the address of a global main in some TEXT, and 1");
        ThumbLinker first = Check.with("main:", ".global main");
        Check.linked(first, "main at 8", 8);
        Check.due("the words", Check.bytes(first, 0, 9), "00040020" + "09000000" + "--");
        ThumbLinker last = sized(of(0), of(1024), of(1016));
        last.drop(0);
        Check.add(last, 3, "main:", ".global main");
        Check.linked(last, "main at 2048", 2048);
        Check.due("the words", Check.bytes(last, 0, 9), "00040020" + "01080000" + "00");
        ThumbLinker odd = Check.with(".byte 7", "main: .byte 7", ".global main");
        Check.linked(odd, "main at 9", 10);
        Check.due("the words", Check.bytes(odd, 0, 9), "00040020" + "0A000000" + "07");
    }

    private static void mains() {
        Check.sentence("a global main in some TEXT");
        for (int m = 0; m <= 3; m++) {
            ThumbLinker x = new ThumbLinker();
            for (int other = 0; other <= 3; other++) {
                Check.add(x, other, "nop", "nop", "main: nop");
            }
            Check.fault(x, "main that is not global", ThumbLinker.UNKNOWN, -1, -1, -1);
            Check.add(x, m, ".global main");
            Check.linked(x, "main of module " + m, 8 + 3 * 8 + 6);
            Check.due("word 1", Check.word(x, 4), 8 + 8 * m + 4 + 1);
        }
        for (String section : new String[] {".data", ".bss"}) {
            ThumbLinker x = Check.with(section, "main:", ".global main");
            Check.fault(x, "main in " + section, ThumbLinker.UNKNOWN, -1, -1, -1);
            Check.add(x, 1, "main: nop");
            Check.fault(x, "main in " + section + ", one in TEXT not global", ThumbLinker.UNKNOWN, -1, -1, -1);
        }
        for (String near : new String[] {"mai", "main1", "mainn", "mains"}) {
            ThumbLinker x = Check.with(near + ":", ".global " + near);
            Check.fault(x, "global " + near, ThumbLinker.UNKNOWN, -1, -1, -1);
        }
    }

    private static void modulesInOrder() {
        Check.sentence("then TEXT of the MODULES, in order; then what DATA is at first, likewise");
        ThumbLinker x = new ThumbLinker();
        for (int m = 3; m >= 0; m--) {
            Check.add(x, m, ".data", ".word " + (20 + m), ".text", ".word " + (10 + m));
        }
        Check.add(x, 2, "main:", ".global main");
        Check.linked(x, "four modules", 40);
        for (int m = 0; m <= 3; m++) {
            Check.due("TEXT of " + m, Check.word(x, 8 + 4 * m), 10 + m);
            Check.due("DATA of " + m, Check.word(x, 24 + 4 * m), 20 + m);
        }
        Check.due("main", Check.word(x, 4), 8 + 12 + 1);
    }

    private static void multiplesOfFour() {
        Check.sentence("each from a multiple of 4 on (0 between)");
        for (int n = 1; n <= 9; n++) {
            int up = (n + 3) / 4 * 4;
            ThumbLinker x = Check.with("main:", ".global main", ".data", "d0:", ".bss", "b0:");
            for (int k = 0; k < n; k++) {
                Check.add(x, 0, k == 0 ? ".text" : "", ".byte -1");
            }
            Check.add(x, 1, "t1: .byte 1", ".data", "d1: .space " + n, ".bss", "b1: .space " + n);
            Check.add(x, 2, ".data", "d2: .byte 2", ".bss", "b2: .space 1");
            Check.linked(x, n + " bytes", 8 + up + 4 + up + 1);
            Check.due("the image from TEXT on", Check.bytes(x, 8, 8 + up + 4), "FF".repeat(n) + "00".repeat(up - n)
                + "01000000");
            Check.due("DATA of 2 in FLASH", x.octet(8 + up + 4 + up), 2);
            Check.due("t1", Check.address(x, 1, "t1"), 8 + up);
            Check.due("d1", Check.address(x, 1, "d1"), RAM);
            Check.due("d2", Check.address(x, 2, "d2"), RAM + up);
            Check.due("b1", Check.address(x, 1, "b1"), RAM + up + 4);
            Check.due("b2", Check.address(x, 2, "b2"), RAM + up + 4 + up);
        }
    }

    private static void ram() {
        Check.sentence("RAM has 1024 bytes from 20000000h");
        linked(1032, of(0, 1024));
        noRoom(of(0, 1024), of(0, 1));
        noRoom(of(0, 1024, 1));
        linked(8, of(0, 0, 1024));
        noRoom(of(0, 0, 1024), of(0, 0, 1));
        linked(520, of(0, 512, 512));
        noRoom(of(0, 512, 513));
        linked(520, of(0, 0, 512), of(0, 512));
        noRoom(of(0, 0, 513), of(0, 512));
        linked(1032, of(0, 256), of(0, 256), of(0, 256), of(0, 256));
        noRoom(of(0, 256), of(0, 256), of(0, 256), of(0, 257));
        linked(8, of(0, 0, 256), of(0, 0, 256), of(0, 0, 256), of(0, 0, 256));
        noRoom(of(0, 0, 256), of(0, 0, 256), of(0, 0, 256), of(0, 0, 257));
    }

    private static void ramWithGaps() {
        Check.sentence("DATA of the MODULES, then BSS of them, each from a multiple of 4 on");
        linked(1028, of(0, 1020, 4));
        noRoom(of(0, 1020, 5));
        linked(1025, of(0, 1017, 4));
        noRoom(of(0, 1021, 1));
        noRoom(of(0, 1021), of(0, 1));
        linked(8, of(0, 0, 1017), of(0, 0, 4));
        noRoom(of(0, 0, 1017), of(0, 0, 5));
        noRoom(of(0, 0, 1021), of(0, 0, 1));
    }

    private static void ramInOrder() {
        Check.sentence("RAM .. DATA of the MODULES, then BSS of them");
        ThumbLinker x = Check.with("main:", ".global main");
        for (int m = 3; m >= 0; m--) {
            Check.add(x, m, ".bss", "b: .space 1", ".data", "d: .space 1", "e:");
        }
        Check.linked(x, "four modules", 8 + 13);
        for (int m = 0; m <= 3; m++) {
            Check.due("d of " + m, Check.address(x, m, "d"), RAM + 4 * m);
            Check.due("e of " + m, Check.address(x, m, "e"), RAM + 4 * m + 1);
            Check.due("b of " + m, Check.address(x, m, "b"), RAM + 16 + 4 * m);
        }
    }

    private static void withoutBytes() {
        Check.sentence("One without bytes takes no room (its LABELS are where it would begin)");
        ThumbLinker x = Check.with("main: .byte 1", ".global main", ".data", "d: .byte 1", ".bss", "b: .space 0");
        Check.add(x, 1, "t:", ".data", "d: .align", ".bss", "b: .space 1");
        Check.add(x, 2, "t: .byte 2", ".data", "d: .space 0", ".bss", "b:");
        Check.add(x, 3, "t: .align", ".data", "d: .byte 3", ".bss", "b:");
        Check.linked(x, "sections without bytes", 21);
        Check.due("the image", Check.bytes(x, 8, 21), "01000000" + "02000000" + "01000000" + "03");
        int[] text = {8, 12, 12, 16};
        int[] data = {RAM, RAM + 4, RAM + 4, RAM + 4};
        int[] bss = {RAM + 8, RAM + 8, RAM + 12, RAM + 12};
        for (int m = 0; m <= 3; m++) {
            Check.due("TEXT of " + m, Check.address(x, m, m == 0 ? "main" : "t"), text[m]);
            Check.due("DATA of " + m, Check.address(x, m, "d"), data[m]);
            Check.due("BSS of " + m, Check.address(x, m, "b"), bss[m]);
        }
    }

    private static void withoutBytesAtTheEnd() {
        Check.sentence("One without bytes takes no room (its LABELS are where it would begin)");
        ThumbLinker x = sized(of(1024, 0, 1021), of(1013));
        Check.add(x, 2, "t: .data", "d: .bss", "b:");
        Check.linked(x, "FLASH and RAM that are all but full", 2045);
        Check.add(x, 3, "t:", ".data", "d:", ".bss", "b:");
        Check.linked(x, "FLASH and RAM that are all but full", 2045);
        Check.due("t", Check.address(x, 3, "t"), 2048);
        Check.due("d", Check.address(x, 3, "d"), RAM);
        Check.due("b", Check.address(x, 3, "b"), RAM + 1024);
        x.erase();
        Check.add(x, 3, ".space 1");
        Check.fault(x, "one byte more of BSS", ThumbLinker.ROOM, -1, -1, -1);
        Check.type(x, ".text");
        x.change(3, 4);
        Check.fault(x, "one byte more of TEXT", ThumbLinker.ROOM, -1, -1, -1);
    }

    private static void imageEnds() {
        Check.sentence("THE IMAGE is FLASH up to the end of the last one that has some");
        linked(8, of(0, 0, 0));
        linked(8, of(0, 0, 100));
        linked(9, of(1));
        linked(9, of(0), of(0), of(0), of(1));
        linked(9, of(0, 1));
        linked(9, of(0), of(0), of(0), of(0, 1));
        linked(13, of(1), of(1), of(0), of(0));
        linked(13, of(1, 1), of(0, 0, 9));
        linked(14, of(2), of(0), of(0), of(0, 2));
        ThumbLinker x = sized(of(5, 0, 6));
        Check.linked(x, "5 bytes of TEXT", 13);
        Check.due("its last byte", x.octet(12), 0);
        Check.due("behind it", x.octet(13), -1);
    }
}
