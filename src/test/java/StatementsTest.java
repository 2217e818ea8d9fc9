/** Promise 7: the statements that are no instructions, KIND, ALIGN and ROOM of a section. */
public final class StatementsTest {
    public static void main(String[] args) {
        values();
        spaces();
        kinds();
        aligns();
        rooms();
        Check.finish();
    }

    private static ThumbLinker data(String... lines) {
        ThumbLinker x = Check.with("main:", ".global main", ".data");
        Check.add(x, 0, lines);
        return x;
    }

    private static void bytes(String want, String... lines) {
        ThumbLinker x = data(lines);
        Check.linked(x, lines[0], 8 + want.length() / 2);
        Check.due("bytes of " + lines[0], Check.bytes(x, 8, 8 + want.length() / 2), want);
    }

    private static void values() {
        bytes("0F270000", ".word 9999");
        bytes("F1D8FFFF", ".word -9999");
        bytes("FBFFFFFF", ".word - 5");
        bytes("00000020", "x: .word x");
        bytes("09000020", "x: .word x + 9");
        bytes("F6FFFF1F", "x: .word x-10");
        bytes("0F270020", "x: .word x+9999");
        bytes("F1D8FF1F", "x: .word x - 9999");
        bytes("08000000", ".word main");
        bytes("04000020", ".word nop", "nop:");
        bytes("80", ".byte -128");
        bytes("FF", ".byte 255");
        bytes("05", ".byte5");
        bytes("0102", ".byte 1", ".byte 2");
        range(".byte 256", 6);
        range(".byte -129", 6);
        range(".byte  - 129", 7);
    }

    private static void range(String line, int place) {
        Check.fault(data(line), line, ThumbLinker.RANGE, 0, 3, place);
    }

    private static void spaces() {
        bytes("01000002", ".byte 1", ".space 2", ".byte 2");
        bytes("0102", ".byte 1", ".space 0", ".byte 2");
        bytes("0100000002", ".byte 1", ".align", ".byte 2");
        bytes("01000000", ".byte 1", ".align", ".align");
        range(".space 513", 7);
        range(".space -1", 7);
        Check.linked(data(".space 512"), ".space 512", 520);
        ThumbLinker x = Check.with("main: nop", ".align", "x: nop", ".global main");
        Check.linked(x, ".align in TEXT", 14);
        Check.due("bytes of it", Check.bytes(x, 8, 14), "00BF000000BF");
    }

    private static void kinds() {
        String[] instructions = {"nop", "movs r1,r1", "bl x", "ldr r1,x", "push {r1}", "bx lr"};
        for (String line : instructions) {
            Check.fault(Check.with(".data", "x:" + line), line + " in DATA", ThumbLinker.KIND, 0, 1, 2);
            Check.fault(Check.with(".bss", " " + line), line + " in BSS", ThumbLinker.KIND, 0, 1, 1);
        }
        Check.fault(Check.with(".bss", ".word 1"), ".word in BSS", ThumbLinker.KIND, 0, 1, 0);
        Check.fault(Check.with(".bss", "x : .byte 1"), ".byte in BSS", ThumbLinker.KIND, 0, 1, 4);
        ThumbLinker x = Check.with("main: .byte 1", ".space 3", ".word 1", ".global main", ".bss", ".global x",
            "x: .space 3", ".align", ".text", "nop");
        Check.linked(x, "what each section may have", 18);
        Check.due("BSS", x.size(0, 2), 4);
    }

    private static void aligns() {
        Check.fault(Check.with(".byte 1", "x: nop"), "nop at 1", ThumbLinker.ALIGN, 0, 1, 3);
        Check.fault(Check.with("nop", ".word 1"), ".word at 2", ThumbLinker.ALIGN, 0, 1, 0);
        Check.fault(Check.with(".data", ".space 3", ".word 1"), ".word at 3", ThumbLinker.ALIGN, 0, 2, 0);
        Check.linked(Check.with("main: nop", ".global main", ".data", ".byte 1", ".text", "nop"), "each its own", 13);
    }

    private static void rooms() {
        String[] sections = {".text", ".data", ".bss"};
        for (String section : sections) {
            ThumbLinker x = Check.with(section, ".space 512", ".space 511", ".align", "x: .space 0", "y: .space 1");
            Check.fault(x, section + " of 1025", ThumbLinker.ROOM, 0, 5, 3);
            Check.type(x, ".text");
            x.change(0, 5);
            Check.add(x, 0, "main:", ".global main");
            Check.linked(x, section + " of 1024", section.equals(".bss") ? 8 : 1032);
        }
        Check.fault(Check.with(".space 512", ".space 510", "bl x"), "bl at 1022", ThumbLinker.ROOM, 0, 2, 0);
        Check.fault(Check.with(".space 512", ".space 512", ".word 1"), ".word at 1024", ThumbLinker.ROOM, 0, 2, 0);
    }
}
