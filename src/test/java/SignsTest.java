/** Promise 7: where a line cannot go on, and which of a line's faults is told. */
public final class SignsTest {
    public static void main(String[] args) {
        words();
        operands();
        numbers();
        lists();
        directives();
        order();
        characters();
        Check.finish();
    }

    private static void sign(String line, int place) {
        told(line, ThumbLinker.SIGN, place);
    }

    private static void told(String line, int kind, int place) {
        Check.fault(Check.with(line), "'" + line + "'", kind, 0, 0, place);
    }

    private static void words() {
        sign("foo", 0);
        sign("  foo", 2);
        sign(":", 0);
        sign("x::", 2);
        sign("x: y: nop", 3);
        sign("x: nop: nop", 6);
        sign("abcdefg: nop", 0);
        sign("1a: nop", 0);
        sign("9:", 0);
        sign(".text:", 5);
        sign("nop x", 4);
        sign("nop nop", 4);
        sign("nopx", 0);
        sign("bzz x", 0);
        sign("bal x", 0);
        sign(".", 0);
        sign(". text", 0);
        sign(".foo", 0);
        sign(".texts", 0);
        sign(".text5", 5);
        sign("NOP", 0);
        sign("x-1: nop", 0);
        sign("movs", 4);
        sign("movs  ", 6);
        sign("x: movs", 7);
    }

    private static void operands() {
        sign("movs r8,r1", 5);
        sign("movs r01,r1", 5);
        sign("movs r,r1", 5);
        sign("movs x1,r1", 5);
        sign("movs r1", 7);
        sign("movs r1 r2", 8);
        sign("movs r1,", 8);
        sign("movs r1,  ", 10);
        sign("movs r1,5", 8);
        sign("movs r1,r2,r3", 10);
        sign("movs r1,#", 9);
        sign("movs r1,#r2", 9);
        sign("movs r1,#-", 10);
        sign("movs r1,#--1", 10);
        sign("movs r1,##1", 9);
        sign("adds r1,r2", 10);
        sign("adds r1,r2,", 11);
        sign("adds r1,r2,3", 11);
        sign("adds r1,#1,r2", 10);
        sign("lsls r1,#1", 8);
        sign("lsls r1,r2,r3", 11);
        sign("ands r1,#1", 8);
        sign("ldr r1,[r2]", 10);
        sign("ldr r1,[r2,4]", 11);
        sign("ldr r1,[r2,r3]", 11);
        sign("ldr r1,[r2,#4", 13);
        sign("ldr r1,[r2,#4] x", 15);
        sign("ldr r1,[r9,#4]", 8);
        sign("ldr r1,#4", 7);
        sign("ldr r1,4", 7);
        sign("ldr r1,abcdefg", 7);
        sign("ldr r1,x+4", 8);
        sign("str r1,x", 7);
        sign("ldrb r1,x", 8);
        sign("b", 1);
        sign("b ", 2);
        sign("b abcdefg", 2);
        sign("b 1x", 2);
        sign("b x y", 4);
        sign("b .text", 2);
        sign("bl #1", 3);
        sign("beq", 3);
        sign("bx", 2);
        sign("bx x", 3);
        sign("bx pc", 3);
        sign("bx r8", 3);
    }

    private static void numbers() {
        sign("movs r1,#12345", 9);
        sign("movs r1,#-12345", 10);
        sign("movs r1,# -  00001", 13);
        sign("movs r1,#1x", 9);
        sign("movs r1,#0x10", 9);
        sign("movs r1,#1 2", 11);
        sign(".byte 00001", 6);
        sign(".byte - - 1", 8);
        sign(".byte +1", 6);
        sign(".byte x", 6);
        sign(".byte", 5);
        sign(".byte 1 2", 8);
        sign(".space x", 7);
    }

    private static void lists() {
        sign("push", 4);
        sign("push r1", 5);
        sign("push {}", 6);
        sign("push {", 6);
        sign("push {r1", 8);
        sign("push {r1,", 9);
        sign("push {r1,}", 9);
        sign("push {r1 r2}", 9);
        sign("push {r1,r1}", 9);
        sign("push {r2,r1}", 9);
        sign("push {r1-r3}", 8);
        sign("push {lr,r1}", 8);
        sign("push {lr,lr}", 8);
        sign("push {pc}", 6);
        sign("pop {lr}", 5);
        sign("pop {r1,pc,r2}", 10);
        sign("push {r8}", 6);
        sign("push {r1} x", 10);
        sign("push {r0,r1,r2,r3,r4,r5,r6,r7,r7}", 30);
        sign("push {r0,r1,r2,r3,r4,r5,r6,r7,lr,", 32);
    }

    private static void directives() {
        sign(".text x", 6);
        sign(".align 4", 7);
        sign(".global", 7);
        sign(".global abcdefg", 8);
        sign(".global 1", 8);
        sign(".global x,y", 9);
        sign(".word", 5);
        sign(".word abcdefg", 6);
        sign(".word +1", 6);
        sign(".word 1+2", 7);
        sign(".word x+", 8);
        sign(".word x+y", 8);
        sign(".word x+-1", 8);
        sign(".word x--1", 8);
        sign(".word x 1", 8);
        sign(".word x+12345", 8);
        sign(".word -x", 7);
        sign(".word 12345", 6);
        sign(".word x+1+1", 9);
        sign(".word .x", 6);
    }

    /** The first from the left of TWICE, SIGN and RANGE; then KIND, ALIGN, ROOM at the statement. */
    private static void order() {
        told("movs r1,#256 x", ThumbLinker.RANGE, 9);
        told("ldr r1,[r2,#2", ThumbLinker.RANGE, 12);
        told("ldr r1,[r2,#200", ThumbLinker.RANGE, 12);
        told("movs r9,#256", ThumbLinker.SIGN, 5);
        told(".space -1 x", ThumbLinker.RANGE, 7);
        Check.fault(Check.with("x:", " x: foo"), "TWICE before SIGN", ThumbLinker.TWICE, 0, 1, 1);
        Check.fault(Check.with("x:", "x: movs r1,#256"), "TWICE before RANGE", ThumbLinker.TWICE, 0, 1, 0);
        Check.fault(Check.with(".bss", "x: .byte 256"), "RANGE before KIND", ThumbLinker.RANGE, 0, 1, 9);
        Check.fault(Check.with(".data", ".byte 1", "x: nop"), "KIND before ALIGN", ThumbLinker.KIND, 0, 2, 3);
        Check.fault(Check.with(".space 512", ".space 511", "nop"), "ALIGN before ROOM", ThumbLinker.ALIGN, 0, 2, 0);
        Check.fault(Check.with(".global x", "b y", "foo"), "lines before names", ThumbLinker.SIGN, 0, 2, 0);
        ThumbLinker x = Check.with("nop", "nop", "b y", ".global z");
        Check.add(x, 1, "", "", "foo");
        Check.fault(x, "a later module's lines before names", ThumbLinker.SIGN, 1, 2, 0);
    }

    private static void characters() {
        for (int c = 1; c < 256; c++) {
            boolean blank = c == ' ';
            ThumbLinker x = new ThumbLinker();
            x.type(c << 24, 0, 0, 0);
            x.add(0);
            Check.fault(x, "character " + c, blank ? ThumbLinker.UNKNOWN : ThumbLinker.SIGN, blank ? -1 : 0,
                blank ? -1 : 0, c == 'b' ? 1 : blank ? -1 : 0);
        }
    }
}
