/** Promise 7: names across modules, where sections lie, distances, and faults in no module. */
public final class LinkingTest {
    private static final int RAM = 0x20000000;

    public static void main(String[] args) {
        layout();
        emptySections();
        names();
        globals();
        mains();
        rooms();
        jumps();
        farthestJumps();
        branches();
        calls();
        literals();
        faultKeepsAll();
        oldBytesAreGone();
        Check.finish();
    }

    private static void layout() {
        ThumbLinker x = Check.with(".data", "d0: .byte 1", ".bss", "b0: .space 5", ".text", "t0: nop");
        Check.add(x, 1, ".global main", "main: nop", "nop", "nop", ".data", "d1: .byte 2", ".byte 3");
        Check.add(x, 3, ".data", "d3: .byte 4", ".bss", "b3: .space 1", ".text", "t3: .byte 9");
        Check.linked(x, "layout", 33);
        Check.due("image", Check.bytes(x, 0, 33), "000400200D000000" + "00BF0000" + "00BF00BF00BF0000" + "09000000"
            + "01000000" + "02030000" + "04");
        Check.due("t0", Check.address(x, 0, "t0"), 8);
        Check.due("main", Check.address(x, 1, "main"), 12);
        Check.due("t3", Check.address(x, 3, "t3"), 20);
        Check.due("d0", Check.address(x, 0, "d0"), RAM);
        Check.due("d1", Check.address(x, 1, "d1"), RAM + 4);
        Check.due("d3", Check.address(x, 3, "d3"), RAM + 8);
        Check.due("b0", Check.address(x, 0, "b0"), RAM + 12);
        Check.due("b3", Check.address(x, 3, "b3"), RAM + 20);
    }

    private static void emptySections() {
        ThumbLinker x = Check.with("main: nop", ".global main", ".data", "d0: .byte 1", ".bss", "b0:");
        Check.add(x, 1, "t1:", ".data", "d1:", ".bss", "b1:");
        Check.add(x, 2, "t2: nop", ".data", "d2:", ".bss", "b2: .space 1");
        Check.linked(x, "empty sections", 17);
        Check.due("t1", Check.address(x, 1, "t1"), 12);
        Check.due("t2", Check.address(x, 2, "t2"), 12);
        Check.due("d1", Check.address(x, 1, "d1"), RAM + 4);
        Check.due("d2", Check.address(x, 2, "d2"), RAM + 4);
        Check.due("b0", Check.address(x, 0, "b0"), RAM + 4);
        Check.due("b1", Check.address(x, 1, "b1"), RAM + 4);
        Check.due("b2", Check.address(x, 2, "b2"), RAM + 4);
        Check.linked(Check.with("main:", ".global main"), "no section has bytes", 8);
        Check.linked(Check.with("main:", ".global main", ".bss", ".space 9"), "BSS is not in the image", 8);
        ThumbLinker switches = Check.with("main: .data", "d: .text", "e: .align", ".global main");
        Check.linked(switches, "labels before a change of section", 8);
        Check.due("d", Check.address(switches, 0, "d"), RAM);
        Check.due("e", Check.address(switches, 0, "e"), 8);
    }

    private static void names() {
        ThumbLinker x = Check.with("main: bl f", ".global main", ".word x", "x:");
        Check.add(x, 1, "f: bx lr", ".align", ".word x", ".global f", "x: .word main+1");
        Check.linked(x, "names", 28);
        Check.due("own x in module 0", Check.word(x, 12), 16);
        Check.due("own x in module 1", Check.word(x, 20), 24);
        Check.due("main of another", Check.word(x, 24), 9);
        ThumbLinker hidden = Check.with("main:", ".global main", "x:");
        Check.add(hidden, 2, "y: .word  x");
        Check.fault(hidden, "a label that is not global", ThumbLinker.UNKNOWN, 2, 0, 10);
        Check.add(hidden, 0, ".global x");
        Check.linked(hidden, "a label that is global", 12);
        String[] users = {"b z", "bl z", "beq z", "ldr r1,z", ".word z"};
        int[] places = {2, 3, 4, 7, 6};
        for (int k = 0; k < users.length; k++) {
            Check.fault(Check.with("main:", ".global main", users[k]), users[k], ThumbLinker.UNKNOWN, 0, 2, places[k]);
        }
    }

    private static void globals() {
        Check.fault(Check.with(".global x"), "no label", ThumbLinker.UNKNOWN, 0, 0, 8);
        Check.fault(Check.with("x:", ".global x", " y: .global x"), "twice", ThumbLinker.TWICE, 0, 2, 12);
        ThumbLinker x = Check.with("x:", ".global x", "main:", ".global main");
        Check.add(x, 1, "x:", ".global x");
        Check.fault(x, "twice in two modules", ThumbLinker.TWICE, 1, 1, 8);
        x.drop(1);
        Check.add(x, 1, ".global x");
        Check.fault(x, "no label of its own", ThumbLinker.UNKNOWN, 1, 0, 8);
        x.drop(1);
        Check.add(x, 1, "x: nop", "x: nop");
        Check.fault(x, "label twice", ThumbLinker.TWICE, 1, 1, 0);
        x.drop(1);
        Check.add(x, 1, "x: nop");
        Check.linked(x, "labels alike in two modules", 10);
        Check.fault(Check.with("b y", ".global x"), "globals before names", ThumbLinker.UNKNOWN, 0, 1, 8);
    }

    private static void mains() {
        Check.fault(Check.with("main: nop"), "main is not global", ThumbLinker.UNKNOWN, -1, -1, -1);
        Check.fault(Check.with(".data", "main: .byte 1", ".global main"), "main in DATA", ThumbLinker.UNKNOWN, -1, -1,
            -1);
        Check.fault(Check.with(".bss", "main: .space 1", ".global main"), "main in BSS", ThumbLinker.UNKNOWN, -1, -1,
            -1);
        Check.fault(Check.with("nop", "b y"), "names before main", ThumbLinker.UNKNOWN, 0, 1, 2);
        ThumbLinker x = Check.with("nop", "nop");
        Check.add(x, 3, "nop", "main: nop", ".global main");
        Check.linked(x, "main in module 3", 16);
        Check.due("word 0", Check.word(x, 0), 0x20000400);
        Check.due("word 1", Check.word(x, 4), 15);
        ThumbLinker odd = Check.with(".byte 1", "main: .byte 2", ".global main");
        Check.linked(odd, "main at an odd place", 10);
        Check.due("word 1 of it", Check.word(odd, 4), 10);
    }

    private static void rooms() {
        ThumbLinker x = Check.with("main: .space 512", ".global main", ".space 512");
        Check.add(x, 1, ".space 504", ".space 512");
        Check.linked(x, "FLASH of 2048", 2048);
        Check.add(x, 2, "end:", ".data", ".space 1");
        Check.fault(x, "FLASH of 2049", ThumbLinker.ROOM, -1, -1, -1);
        x.drop(2);
        Check.add(x, 2, "end:", ".word z");
        Check.fault(x, "FLASH of 2052, before names", ThumbLinker.ROOM, -1, -1, -1);
        x.drop(2);
        Check.add(x, 2, "end:");
        Check.linked(x, "a label at FLASH's end", 2048);
        Check.due("end", Check.address(x, 2, "end"), 2048);
        ThumbLinker ram = Check.with("main:", ".global main", ".data", ".space 509");
        Check.add(ram, 1, ".bss", ".space 512");
        Check.linked(ram, "RAM of 1024", 517);
        Check.add(ram, 2, ".bss", ".space 1");
        Check.fault(ram, "RAM of 1025", ThumbLinker.ROOM, -1, -1, -1);
    }

    private static void jumps() {
        ThumbLinker x = Check.with("main: b x", ".global main", "nop", "x: b main");
        Check.linked(x, "b both ways", 14);
        Check.due("b on", Check.half(x, 8), 0xE000);
        Check.due("b back", Check.half(x, 12), 0xE7FC);
        Check.fault(Check.with("main: b x", ".global main", ".byte 1", "x: .byte 1"), "b to an odd place",
            ThumbLinker.FAR, 0, 0, 8);
        Check.fault(Check.with("main: b x", ".global main", ".bss", "x:"), "b to BSS", ThumbLinker.FAR, 0, 0, 8);
    }

    /** FLASH is too small for a jump inside it that is too far: these are the farthest there are. */
    private static void farthestJumps() {
        ThumbLinker x = Check.with("main: b x", ".global main", ".space 510", ".space 512");
        Check.add(x, 1, ".space 512", ".space 504", "x:", ".global x");
        Check.linked(x, "b to FLASH's end", 2048);
        Check.due("b over 2036", Check.half(x, 8), 0xE3FA);
        ThumbLinker back = Check.with("main:", ".global main", ".space 512", ".space 512");
        Check.add(back, 1, ".space 512", ".space 502", "b main");
        Check.linked(back, "b from FLASH's end", 2048);
        Check.due("b back over 2042", Check.half(back, 2046), 0xE403);
    }

    private static void branches() {
        branch(".space 256", "x:", "beq x", 8, 0xD07F);
        branch(".space 258", "x:", "beq x", 8, ThumbLinker.FAR);
        branch(".space 1", "x:", "beq x", 8, ThumbLinker.FAR);
        ThumbLinker back = Check.with("main:", ".global main", "x: .space 252", "bgt x");
        Check.linked(back, "bgt back", 262);
        Check.due("bgt -256", Check.half(back, 260), 0xDC80);
        ThumbLinker far = Check.with("main:", ".global main", "x: .space 254", "  bgt x");
        Check.fault(far, "bgt -258", ThumbLinker.FAR, 0, 3, 6);
        ThumbLinker other = Check.with("main: beq x", ".global main");
        Check.add(other, 1, "x: nop", ".global x");
        Check.fault(other, "beq to another module", ThumbLinker.FAR, 0, 0, 10);
        Check.fault(Check.with("main: beq x", ".global main", ".data", "x:"), "beq to DATA", ThumbLinker.FAR, 0, 0, 10);
    }

    private static void branch(String between, String label, String jump, int place, int want) {
        ThumbLinker x = Check.with("main:" + jump, ".global main", between, label);
        int got = x.link();
        Check.due(jump + " over " + between, got < 0 ? got : Check.half(x, place), want);
    }

    private static void calls() {
        ThumbLinker x = Check.with("x:", "main: bl main", ".global main", "bl end", "bl x", "end:");
        Check.linked(x, "bl", 20);
        Check.due("bl", Check.bytes(x, 8, 20), "FFF7FEFF" + "00F002F8" + "FFF7FAFF");
        ThumbLinker far = Check.with("main: bl x", ".global main", ".space 512", ".space 500");
        Check.add(far, 1, ".space 512", ".space 506", "x: bl main", ".global x");
        Check.linked(far, "bl over 2030", 2046);
        Check.due("bl on", Check.bytes(far, 8, 12), "00F0F7FB");
        Check.due("bl back", Check.bytes(far, 2042, 2046), "FFF705FC");
        Check.fault(Check.with("main: bl x", ".global main", ".data", "x:"), "bl to DATA", ThumbLinker.FAR, 0, 0, 9);
        Check.fault(Check.with("main: bl x", ".global main", ".byte 1", "x:"), "bl to an odd place", ThumbLinker.FAR, 0,
            0, 9);
        ThumbLinker other = Check.with("main: bl x", ".global main");
        Check.add(other, 2, ".global x", "x: bx lr");
        Check.linked(other, "bl to another module", 14);
        Check.due("bl to it", Check.bytes(other, 8, 12), "00F000F8");
    }

    private static void literals() {
        literal(8, 0x4B00, "main: ldr r3,x", "nop", "x: .word 1");
        literal(10, 0x4B00, "main: nop", "ldr r3,x", "x: .word 1");
        literal(10, 0x4F01, "main: nop", "ldr r7,x", ".word 0", "x:");
        literal(8, 0x48FF, "main: ldr r0,x", ".space 512", ".space 510", "x:");
        literal(8, ThumbLinker.FAR, "main: ldr r0,x", "x: nop");
        literal(8, ThumbLinker.FAR, "main: ldr r0,x", "nop", "nop", "x:");
        literal(10, ThumbLinker.FAR, "main: nop", "x: ldr r0,x");
        literal(8, ThumbLinker.FAR, "main: ldr r0,main");
        literal(8, ThumbLinker.FAR, "main: ldr r0,x", ".data", "x:");
        ThumbLinker other = Check.with("main: ldr r2,x", "nop", ".global main");
        Check.add(other, 1, "x: .word 1", ".global x");
        Check.fault(other, "ldr of another module's", ThumbLinker.FAR, 0, 0, 13);
    }

    private static void literal(int place, int want, String... lines) {
        ThumbLinker x = Check.with(".global main");
        Check.add(x, 0, lines);
        int got = x.link();
        Check.due(String.join(" / ", lines), got < 0 ? got : Check.half(x, place), want);
    }

    private static void oldBytesAreGone() {
        ThumbLinker x = Check.with("main: .byte 1", ".global main", ".byte 2", ".byte 3", ".byte 4", ".data", ".byte 5");
        for (int k = 0; k < 3; k++) {
            Check.linked(x, "bytes", 13);
        }
        x.drop(0);
        Check.add(x, 0, "main: .space 1", ".global main", ".data", ".space 2");
        Check.linked(x, "spaces", 14);
        Check.due("spaces", Check.bytes(x, 8, 14), "000000000000");
    }

    private static void faultKeepsAll() {
        ThumbLinker x = Check.with("main: nop", ".global main", ".data", "d: .byte 7");
        Check.linked(x, "before", 13);
        String before = Check.bytes(x, 0, 14);
        String[] faults = {"foo", ".byte 256", "main:", ".text", ".global q", ".word q"};
        Check.add(x, 0, "");
        for (String line : faults) {
            Check.type(x, line);
            x.change(0, 4);
            x.link();
            Check.add(x, 1, ".space 512", ".space 512", ".data", ".space 512", ".space 512");
            x.link();
            x.drop(1);
            Check.due("image after " + line, Check.bytes(x, 0, 14), before);
            Check.due("size after " + line, x.size(0, 1), 1);
            Check.due("size of 1 after " + line, x.size(1, 0), 0);
            Check.due("d after " + line, Check.address(x, 0, "d"), RAM);
            x.erase();
        }
        x.drop(0);
        Check.fault(x, "no lines", ThumbLinker.UNKNOWN, -1, -1, -1);
        Check.due("image after drop", Check.bytes(x, 0, 14), before);
        Check.due("hex after drop", x.hex(0), ':');
    }
}
