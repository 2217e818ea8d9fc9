/** Promise 7: the code of each instruction, and its limits. */
public final class CodesTest {
    private static final String[] PAIRS = {"ands", "eors", "", "", "", "adcs", "sbcs", "", "tst", "negs", "cmp", "",
        "orrs", "muls", "bics", "mvns"};
    private static final String[] CONDITIONS = {"eq", "ne", "cs", "cc", "mi", "pl", "vs", "vc", "hi", "ls", "ge",
        "lt", "gt", "le"};

    public static void main(String[] args) {
        plain();
        pairs();
        ranges();
        lists();
        conditions();
        blanks();
        Check.finish();
    }

    private static void code(String line, int want) {
        ThumbLinker x = Check.with("main:", ".global main", line);
        Check.linked(x, line, 10);
        Check.due("code of " + line, Check.half(x, 8), want);
    }

    private static void range(String line, int place) {
        Check.fault(Check.with("main:", ".global main", line), line, ThumbLinker.RANGE, 0, 2, place);
    }

    private static void plain() {
        code("nop", 0xBF00);
        code("movs r7,r0", 0x0007);
        code("movs r0,r7", 0x0038);
        code("movs r3,#170", 0x23AA);
        code("cmp r5,#255", 0x2DFF);
        code("adds r6,#1", 0x3601);
        code("subs r2,#128", 0x3A80);
        code("adds r1,r2,r4", 0x1911);
        code("subs r1,r2,r4", 0x1B11);
        code("adds r1,r2,#4", 0x1D11);
        code("subs r1,r2,#4", 0x1F11);
        code("lsls r2,r5,#3", 0x00EA);
        code("lsrs r2,r5,#3", 0x08EA);
        code("asrs r2,r5,#3", 0x10EA);
        code("lsrs r2,r5,#32", 0x082A);
        code("asrs r2,r5,#32", 0x102A);
        code("lsls r2,r5,#0", 0x002A);
        code("ldr r1,[r6,#64]", 0x6C31);
        code("str r1,[r6,#64]", 0x6431);
        code("ldrb r1,[r6,#16]", 0x7C31);
        code("strb r1,[r6,#16]", 0x7431);
        code("bx r0", 0x4700);
        code("bx r7", 0x4738);
        code("bx lr", 0x4770);
    }

    private static void pairs() {
        for (int k = 0; k < 16; k++) {
            if (!PAIRS[k].isEmpty()) {
                code(PAIRS[k] + " r2,r5", 0x4000 + 0x40 * k + 8 * 5 + 2);
                code(PAIRS[k] + " r7,r0", 0x4000 + 0x40 * k + 7);
            }
        }
    }

    private static void ranges() {
        code("movs r0,#0", 0x2000);
        code("movs r0,#-0", 0x2000);
        code("movs r0,#0255", 0x20FF);
        range("movs r0,#256", 9);
        range("movs r0,#-1", 9);
        range("movs r0,# - 9999", 10);
        code("cmp r0,#0", 0x2800);
        code("adds r0,#0", 0x3000);
        code("subs r0,#0", 0x3800);
        code("adds r0,r0,#0", 0x1C00);
        code("subs r0,r0,#0", 0x1E00);
        range("cmp r0,#256", 8);
        range("adds r0,#256", 9);
        range("subs r0,#256", 9);
        code("adds r0,r0,#7", 0x1DC0);
        range("adds r0,r0,#8", 12);
        range("subs r0,r0,#-1", 12);
        code("lsls r0,r0,#31", 0x07C0);
        range("lsls r0,r0,#32", 12);
        range("lsls r0,r0,#-1", 12);
        code("lsrs r0,r0,#1", 0x0840);
        range("lsrs r0,r0,#0", 12);
        range("lsrs r0,r0,#33", 12);
        code("asrs r0,r0,#1", 0x1040);
        range("asrs r0,r0,#0", 12);
        range("asrs r0,r0,#33", 12);
        code("ldr r0,[r0,#124]", 0x6FC0);
        code("str r0,[r0,#124]", 0x67C0);
        code("ldr r0,[r0,#0]", 0x6800);
        range("ldr r0,[r0,#128]", 12);
        range("ldr r0,[r0,#-4]", 12);
        range("str r0,[r0,#126]", 12);
        range("str r0,[r0,#1]", 12);
        code("ldrb r0,[r0,#31]", 0x7FC0);
        code("strb r0,[r0,#31]", 0x77C0);
        range("ldrb r0,[r0,#32]", 13);
        range("strb r0,[r0,#-1]", 13);
    }

    private static void lists() {
        code("push {r0}", 0xB401);
        code("push {lr}", 0xB500);
        code("pop {pc}", 0xBD00);
        code("push{r0,r1,r2,r3,r4,r5,r6,r7,lr}", 0xB5FF);
        code("pop { r0 , r1,r2,r3,r4,r5,r6,r7 , pc }", 0xBDFF);
        code("pop {r7}", 0xBC80);
        code("push {r2,r6}", 0xB444);
    }

    private static void conditions() {
        for (int c = 0; c < CONDITIONS.length; c++) {
            code("x:b" + CONDITIONS[c] + " x", 0xD0FE + 0x100 * c);
        }
    }

    private static void blanks() {
        code("   nop   ", 0xBF00);
        code("adds  r1 , r2 , # 3", 0x1CD1);
        code("ldr r1 , [ r2 , # 4 ] ", 0x6851);
        code("a1b2c3  :  nop", 0xBF00);
        code("nop:nop", 0xBF00);
        code("r1:movs r1,r1", 0x0009);
        code("push{r1}", 0xB402);
        code("r2:b r2", 0xE7FE);
    }
}
