/** 'Terms', CODES and NAMES: every register and number in its code, and how far a NAME may be. */
public final class CodeEdgesTest {
    private static final String[] PAIRS = {"ands", "eors", "", "", "", "adcs", "sbcs", "", "tst", "negs", "cmp", "",
        "orrs", "muls", "bics", "mvns"};

    public static void main(String[] args) {
        registersAndBytes();
        threeParts();
        shifts();
        pairs();
        memory();
        jumps();
        farthestJumps();
        conditions();
        calls();
        farthestCalls();
        literals();
        oddDistances();
        ownNames();
        sameSection();
        Check.finish();
    }

    private static void registersAndBytes() {
        Check.sentence("movs d,m 0000 + 8 m + d; #: 2000 + 100 d + n; cmp # 2800, adds # 3000, subs # 3800 likewise");
        for (int d = 0; d <= 7; d++) {
            for (int m = 0; m <= 7; m++) {
                Check.code("movs r" + d + ",r" + m, 8 * m + d);
            }
            for (int n = 0; n <= 255; n++) {
                Check.code("movs r" + d + ",#" + n, 0x2000 + 0x100 * d + n);
                Check.code("cmp r" + d + ",#" + n, 0x2800 + 0x100 * d + n);
                Check.code("adds r" + d + ",#" + n, 0x3000 + 0x100 * d + n);
                Check.code("subs r" + d + ",#" + n, 0x3800 + 0x100 * d + n);
            }
        }
    }

    private static void threeParts() {
        Check.sentence("adds d,n,m 1800 + 40 m + 8 n + d, subs 1A00, with # (40 n for 40 m) 1C00, 1E00");
        for (int k = 0; k < 512; k++) {
            int d = k & 7;
            int n = k >> 3 & 7;
            int m = k >> 6;
            String two = " r" + d + ",r" + n + ",";
            Check.code("adds" + two + "r" + m, 0x1800 + 0x40 * m + 8 * n + d);
            Check.code("subs" + two + "r" + m, 0x1A00 + 0x40 * m + 8 * n + d);
            Check.code("adds" + two + "#" + m, 0x1C00 + 0x40 * m + 8 * n + d);
            Check.code("subs" + two + "#" + m, 0x1E00 + 0x40 * m + 8 * n + d);
        }
    }

    private static void shifts() {
        Check.sentence("lsls 0000 + 40 n + 8 m + d, lsrs 0800, asrs 1000 (n modulo 32)");
        for (int k = 0; k < 64; k++) {
            int d = k & 7;
            int m = k >> 3;
            String two = " r" + d + ",r" + m + ",#";
            for (int n = 0; n <= 31; n++) {
                int shifted = n == 0 ? 32 : n;
                Check.code("lsls" + two + n, 0x40 * n + 8 * m + d);
                Check.code("lsrs" + two + shifted, 0x0800 + 0x40 * n + 8 * m + d);
                Check.code("asrs" + two + shifted, 0x1000 + 0x40 * n + 8 * m + d);
            }
        }
    }

    private static void pairs() {
        Check.sentence("d,m: 4000 + 40 k + 8 m + d, k: ands 0, eors 1, adcs 5, sbcs 6, tst 8, negs 9, cmp A, orrs C,"
            + " muls D, bics E, mvns F");
        for (int k = 0; k < PAIRS.length; k++) {
            for (int two = 0; two < 64 && !PAIRS[k].isEmpty(); two++) {
                Check.code(PAIRS[k] + " r" + (two & 7) + ",r" + (two >> 3), 0x4000 + 0x40 * k + two);
            }
        }
    }

    private static void memory() {
        Check.sentence("str 6000, ldr 6800, + 40 n / 4 + 8 m + d; strb 7000, ldrb 7800, + 40 n + 8 m + d");
        for (int k = 0; k < 64; k++) {
            String two = " r" + (k & 7) + ",[r" + (k >> 3) + ",#";
            for (int n = 0; n <= 31; n++) {
                Check.code("str" + two + 4 * n + "]", 0x6000 + 0x40 * n + k);
                Check.code("ldr" + two + 4 * n + "]", 0x6800 + 0x40 * n + k);
                Check.code("strb" + two + n + "]", 0x7000 + 0x40 * n + k);
                Check.code("ldrb" + two + n + "]", 0x7800 + 0x40 * n + k);
            }
        }
    }

    /** The code that a line of this size gives when t is the distance to its label x; or the fault. */
    private static int reached(String line, int size, int t) {
        ThumbLinker x = Check.with("main:", ".global main");
        int place = 8;
        if (t + 4 >= size) {
            Check.add(x, 0, line);
            space(x, t + 4 - size);
            Check.add(x, 0, "x:");
        } else {
            // A byte before the label keeps the instruction at an even place.
            int odd = t & 1;
            Check.add(x, 0, ".space " + odd, "x:");
            space(x, -t - 4);
            Check.add(x, 0, line);
            place += odd - t - 4;
        }
        int got = x.link();
        return got < 0 ? got : size == 2 ? Check.half(x, place) : Check.word(x, place);
    }

    private static void space(ThumbLinker x, int bytes) {
        Check.add(x, 0, ".space " + Math.min(bytes, 512), ".space " + Math.max(0, bytes - 512));
    }

    private static void jumps() {
        Check.sentence("b E000 + the lower 11 bits of t / 2 (t -2048 .. 2046)");
        for (int t = -1022; t <= 1018; t += 2) {
            Check.due("b over " + t, reached("b x", 2, t), 0xE000 + (t / 2 & 0x7FF));
        }
    }

    /** FLASH has no room for a t of -2048 or 2046, so these are the last that a program can have. */
    private static void farthestJumps() {
        Check.sentence("b E000 + the lower 11 bits of t / 2 (t -2048 .. 2046)");
        ThumbLinker on = Check.with("main: b x", ".global main", ".space 512", ".space 510");
        Check.add(on, 1, ".space 512", ".space 504", "x:", ".global x");
        Check.linked(on, "b over 2036", 2048);
        Check.due("b over 2036", Check.half(on, 8), 0xE000 + 2036 / 2);
        ThumbLinker back = Check.with("main:", ".global main", ".space 512", ".space 512");
        Check.add(back, 1, ".space 512", ".space 502", "b main");
        Check.linked(back, "b over -2042", 2048);
        Check.due("b over -2042", Check.half(back, 2046), 0xE000 + (-2042 / 2 & 0x7FF));
        for (String section : new String[] {".data", ".bss"}) {
            ThumbLinker ram = Check.with("main:b x", ".global main", section, "x:");
            Check.fault(ram, "b to " + section, ThumbLinker.FAR, 0, 0, 7);
        }
    }

    private static void conditions() {
        Check.sentence("b with condition c: D000 + 100 c + the lower 8 bits of t / 2 (-256 .. 254)");
        for (int t = -300; t <= 300; t += 2) {
            int want = t >= -256 && t <= 254 ? 0xD000 + (t / 2 & 0xFF) : ThumbLinker.FAR;
            Check.due("beq over " + t, reached("beq x", 2, t), want);
            Check.due("ble over " + t, reached("ble x", 2, t), want < 0 ? want : want + 0xD00);
        }
    }

    private static void calls() {
        Check.sentence("bl: t / 2 has 24 bits, s, i, j, then ten, then eleven");
        for (int t = 0; t <= 1016; t += 2) {
            Check.due("bl over " + t, reached("bl x", 4, t), (0xF800 + t / 2) << 16 | 0xF000);
        }
        for (int t = -1022; t <= -4; t += 2) {
            Check.due("bl over " + t, reached("bl x", 4, t), (0xF800 + (t / 2 & 0x7FF)) << 16 | 0xF7FF);
        }
    }

    /** The limits of bl's t lie between FLASH and RAM, so any LABEL of FLASH is near and any of RAM is far. */
    private static void farthestCalls() {
        Check.sentence("(t -2^24 .. 2^24 - 2)");
        ThumbLinker on = Check.with("main: bl x", ".global main", ".space 512", ".space 508");
        Check.add(on, 1, ".space 512", ".space 504", "x:", ".global x");
        Check.linked(on, "bl over 2036", 2048);
        Check.due("bl over 2036", Check.bytes(on, 8, 12), "00F0FAFB");
        ThumbLinker back = Check.with("main:", ".global main", ".space 512", ".space 512");
        Check.add(back, 1, ".space 512", ".space 500", "bl main");
        Check.linked(back, "bl over -2040", 2048);
        Check.due("bl over -2040", Check.bytes(back, 2044, 2048), "FFF704FC");
        for (String section : new String[] {".data", ".bss"}) {
            ThumbLinker ram = Check.with("main:bl x", ".global main", section, "x:");
            Check.fault(ram, "bl to " + section, ThumbLinker.FAR, 0, 0, 8);
        }
    }

    /** A TEXT of 1024 bytes has no room for a t above 1020. */
    private static void literals() {
        Check.sentence("t counted from the instruction's address made a multiple of 4 (0 .. 1020, a multiple of 4)");
        for (int place = 0; place <= 6; place += 2) {
            for (int label = 0; label <= 1024; label += label < 24 || label > 1000 ? 1 : 4) {
                literal(place, label);
            }
        }
    }

    private static void literal(int place, int label) {
        if (label > place && label < place + 2) {
            return;
        }
        ThumbLinker x = Check.with("main:", ".global main");
        int before = Math.min(place, label);
        space(x, before);
        Check.add(x, 0, place < label ? "ldr r5,x" : "x:");
        space(x, place < label ? label - place - 2 : place - label);
        Check.add(x, 0, place < label ? "x:" : "ldr r5,x");
        int t = label - place / 4 * 4 - 4;
        int want = t >= 0 && t <= 1020 && t % 4 == 0 ? 0x4D00 + t / 4 : ThumbLinker.FAR;
        int got = x.link();
        Check.due("ldr at " + place + " of " + label, got < 0 ? got : Check.half(x, 8 + place), want);
    }

    private static void oddDistances() {
        Check.sentence("FAR, at it, if t (which must be even)");
        for (int t : new int[] {-257, -255, -7, -5, 1, 3, 253, 255}) {
            Check.due("b over " + t, reached("b x", 2, t), ThumbLinker.FAR);
            Check.due("bne over " + t, reached("bne x", 2, t), ThumbLinker.FAR);
            Check.due("bl over " + t, reached("bl x", 4, t), ThumbLinker.FAR);
        }
        Check.due("b over -1", reached("b x", 2, -1), ThumbLinker.FAR);
        Check.due("bne over -1", reached("bne x", 2, -1), ThumbLinker.FAR);
    }

    private static void ownNames() {
        Check.sentence("A NAME is a LABEL of its own MODULE, or else one that another MODULE has told to be global");
        for (int m = 0; m <= 3; m++) {
            int other = (m + 1) % 4;
            ThumbLinker x = new ThumbLinker();
            Check.add(x, m, "main: .word x", ".global main");
            Check.fault(x, "x of none", ThumbLinker.UNKNOWN, m, 0, 12);
            Check.add(x, other, "nop", "x: nop");
            Check.fault(x, "x of another, not global", ThumbLinker.UNKNOWN, m, 0, 12);
            Check.add(x, other, ".global x");
            boolean first = m < other;
            Check.linked(x, "x of another, global", 16);
            Check.due("x of another, global", Check.word(x, first ? 8 : 12), first ? 14 : 10);
            Check.add(x, m, "x: nop");
            Check.linked(x, "x of its own", first ? 20 : 18);
            Check.due("x of its own", Check.word(x, first ? 8 : 12), first ? 12 : 16);
        }
    }

    private static void sameSection() {
        Check.sentence("b with a condition, and ldr d,NAME, need one of the same SECTION of the same MODULE");
        for (String line : new String[] {"bvc x", "ldr r0,x"}) {
            int place = line.indexOf('x');
            ThumbLinker own = Check.with("main:", ".global main", line, "nop", "x: nop");
            Check.linked(own, line + " of its own", 14);
            ThumbLinker other = Check.with("main:", ".global main", line, "nop");
            Check.add(other, 1, "x: nop", ".global x");
            Check.fault(other, line + " of another module, as near", ThumbLinker.FAR, 0, 2, place);
            for (String section : new String[] {".data", ".bss"}) {
                ThumbLinker ram = Check.with("main:", ".global main", line, section, "x:");
                Check.fault(ram, line + " of " + section, ThumbLinker.FAR, 0, 2, place);
            }
        }
        for (String line : new String[] {"b x", "bl x", ".word x"}) {
            ThumbLinker other = Check.with("main:", ".global main", line, ".align");
            Check.add(other, 1, "x: nop", ".global x");
            Check.linked(other, line + " of another module", 14);
        }
    }
}
