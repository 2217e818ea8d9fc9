import java.util.Arrays;

/** 'Terms', SECTIONS and STATEMENTS: the last input that each may have, and the first that it may not. */
public final class StatementEdgesTest {
    private static final int RAM = 0x20000000;
    private static final String CONDITIONS = "eq ne cs cc mi pl vs vc hi ls ge lt gt le";
    private static final String[] WORDS = {".text", ".data", ".bss", ".global", ".word", ".byte", ".space", ".align",
        "nop", "movs", "adds", "subs", "cmp", "lsls", "lsrs", "asrs", "ands", "eors", "adcs", "sbcs", "tst", "negs",
        "orrs", "muls", "bics", "mvns", "ldr", "str", "ldrb", "strb", "push", "pop", "b", "bl", "bx"};

    public static void main(String[] args) {
        sectionsAtFirst();
        sectionsGoOn();
        sectionsFromHereOn();
        labels();
        globals();
        words();
        wordsOfNames();
        bytes();
        spaces();
        aligns();
        numbersOfInstructions();
        otherForms();
        lists();
        listOrder();
        conditions();
        exchanges();
        noOtherWords();
        Check.finish();
    }

    private static void sectionsAtFirst() {
        Check.sentence("SECTIONS are TEXT (at first), DATA, BSS, of each MODULE");
        for (int m = 0; m <= 3; m++) {
            ThumbLinker x = new ThumbLinker();
            for (int other = 0; other <= 3; other++) {
                Check.add(x, other, other == m ? "main: nop" : "", ".bss", ".space 1", ".data", ".byte 1");
            }
            Check.add(x, m, ".global main");
            Check.linked(x, "main in module " + m, 25);
            for (int other = 0; other <= 3; other++) {
                Check.due("TEXT of " + other, x.size(other, 0), other == m ? 2 : 0);
                Check.due("DATA of " + other, x.size(other, 1), 1);
                Check.due("BSS of " + other, x.size(other, 2), 1);
            }
        }
    }

    private static void sectionsGoOn() {
        Check.sentence("a STATEMENT puts bytes behind what its SECTION has");
        ThumbLinker x = Check.with("main: .byte 1", ".data", ".byte 2", ".bss", ".space 3", ".text", ".byte 4",
            ".data", ".byte 5", ".bss", ".space 6", ".text", ".text", ".byte 7", ".global main");
        Check.linked(x, "three sections in turn", 14);
        Check.due("TEXT and DATA", Check.bytes(x, 8, 14), "010407000205");
        Check.due("BSS", x.size(0, 2), 9);
    }

    private static void sectionsFromHereOn() {
        Check.sentence(".text, .data, .bss: the SECTION from here on");
        String[] sections = {".text", ".data", ".bss"};
        for (int before = 0; before < 3; before++) {
            for (int after = 0; after < 3; after++) {
                ThumbLinker x = Check.with("main:", ".global main", sections[before], ".space 3", sections[after],
                    ".space 5");
                Check.due(sections[before] + ", then " + sections[after], Math.min(x.link(), 0), 0);
                for (int k = 0; k < 3; k++) {
                    int want = (k == before ? 3 : 0) + (k == after ? 5 : 0);
                    Check.due(sections[before] + ", then " + sections[after] + ": " + sections[k], x.size(0, k), want);
                }
            }
        }
    }

    private static void labels() {
        Check.sentence("A LABEL is where its SECTION goes on, at the end of what is there");
        ThumbLinker x = Check.with("main: .byte 1", "a: .align", "b: .data", "c: .space 512", "d: .space 512", "e:",
            "f: .text", "g: .bss", "h:", ".global main");
        Check.linked(x, "labels", 1036);
        String[] names = {"main", "a", "b", "c", "d", "e", "f", "g", "h"};
        int[] want = {8, 9, 12, RAM, RAM + 512, RAM + 1024, RAM + 1024, 12, RAM + 1024};
        for (int k = 0; k < names.length; k++) {
            Check.due("address of " + names[k], Check.address(x, 0, names[k]), want[k]);
        }
    }

    private static void globals() {
        Check.sentence(".global NAME: that LABEL of this MODULE (or none: UNKNOWN) is seen by others");
        String[][] orders = {{"x:", ".global x"}, {".global x", "x:"}, {"x: .global x"}, {".bss", ".global x", "x:"}};
        for (String[] order : orders) {
            for (int m = 1; m <= 3; m++) {
                ThumbLinker x = Check.with("main: .word x", ".global main");
                Check.add(x, m, order);
                Check.linked(x, "x of module " + m, 12);
            }
        }
        ThumbLinker x = Check.with("main: .word x", ".global main");
        Check.add(x, 1, "x:");
        Check.fault(x, "x that is not global", ThumbLinker.UNKNOWN, 0, 0, 12);
        Check.add(x, 2, ".global x");
        Check.fault(x, "x that another module has", ThumbLinker.UNKNOWN, 2, 0, 8);
    }

    private static void words() {
        Check.sentence(".word VALUE: four bytes, the lowest first: VALUE is a NUMBER");
        String[] lines = {".word 0", ".word 1", ".word 9999", ".word -1", ".word -9999", ".word -0"};
        String[] want = {"00000000", "01000000", "0F270000", "FFFFFFFF", "F1D8FFFF", "00000000"};
        for (int k = 0; k < lines.length; k++) {
            bytesOf(lines[k], want[k]);
        }
        Check.outside(".word 10000", ThumbLinker.SIGN, 6);
        Check.outside(".word -10000", ThumbLinker.SIGN, 7);
    }

    private static void wordsOfNames() {
        Check.sentence("or a NAME, perhaps + or - and a NUMBER without sign: its address with that");
        bytesOf(".word main", "08000000");
        bytesOf(".word main+0", "08000000");
        bytesOf(".word main-0", "08000000");
        bytesOf(".word main+9999", "17270000");
        bytesOf(".word main-8", "00000000");
        bytesOf(".word main-9", "FFFFFFFF");
        bytesOf(".word main-9999", "F9D8FFFF");
        ThumbLinker x = Check.with("main: .word d+4660", ".global main", ".word d-1", ".word d-9999", ".data", "d:");
        Check.linked(x, "d in RAM", 20);
        Check.due("d with numbers", Check.bytes(x, 8, 20), "34120020" + "FFFFFF1F" + "F1D8FF1F");
    }

    private static void bytesOf(String line, String want) {
        ThumbLinker x = Check.with("main:", ".global main", line);
        Check.linked(x, "'" + line + "'", 8 + want.length() / 2);
        Check.due("'" + line + "'", Check.bytes(x, 8, 8 + want.length() / 2), want);
    }

    private static void bytes() {
        Check.sentence(".byte NUMBER, -128 .. 255");
        Check.outside(".byte -9999", ThumbLinker.RANGE, 6);
        Check.outside(".byte -129", ThumbLinker.RANGE, 6);
        for (int n = -128; n <= 255; n++) {
            bytesOf(".byte " + n, String.format("%02X", n & 255));
        }
        Check.outside(".byte 256", ThumbLinker.RANGE, 6);
        Check.outside(".byte 9999", ThumbLinker.RANGE, 6);
    }

    private static void spaces() {
        Check.sentence(".space NUMBER, 0 .. 512: as many 0");
        Check.outside(".space -9999", ThumbLinker.RANGE, 7);
        Check.outside(".space -1", ThumbLinker.RANGE, 7);
        for (int n : new int[] {0, 1, 2, 3, 4, 255, 256, 511, 512}) {
            ThumbLinker x = Check.with("main: .byte 1", ".space " + n, ".byte 2", ".global main");
            Check.linked(x, ".space " + n, 10 + n);
            Check.due("first byte before .space " + n, x.octet(8), 1);
            for (int k = 0; k < n && k < 300; k++) {
                Check.due("byte " + k + " of .space " + n, x.octet(9 + k), 0);
            }
            Check.due("first byte behind .space " + n, x.octet(9 + n), 2);
        }
        Check.outside(".space 513", ThumbLinker.RANGE, 7);
        Check.outside(".space 9999", ThumbLinker.RANGE, 7);
    }

    private static void aligns() {
        Check.sentence(".align: 0 up to a multiple of 4");
        for (int n = 0; n <= 9; n++) {
            int up = (n + 3) / 4 * 4;
            for (String section : new String[] {".text", ".data"}) {
                ThumbLinker x = Check.with("main:", ".global main", section, ".space " + n, ".align", ".byte -1");
                Check.linked(x, section + " .align at " + n, 9 + up);
                Check.due(section + " .align at " + n, Check.bytes(x, 8, 9 + up), "00".repeat(up) + "FF");
            }
            ThumbLinker x = Check.with("main:", ".global main", ".bss", ".space " + n, ".align", ".align");
            Check.linked(x, ".bss .align at " + n, 8);
            Check.due(".bss .align at " + n, x.size(0, 2), up);
        }
    }

    private static void numbersOfInstructions() {
        Check.sentence("movs r,#n (0 .. 255)");
        numbers("movs r1,#N", 0, 255, 1);
        Check.sentence("adds, subs r,#n (0 .. 255); r,r,#n (0 .. 7)");
        numbers("adds r1,#N", 0, 255, 1);
        numbers("subs r1,#N", 0, 255, 1);
        numbers("adds r1,r2,#N", 0, 7, 1);
        numbers("subs r1,r2,#N", 0, 7, 1);
        Check.sentence("cmp r,#n (0 .. 255)");
        numbers("cmp r1,#N", 0, 255, 1);
        Check.sentence("lsls r,r,#n (0 .. 31), lsrs, asrs r,r,#n (1 .. 32)");
        numbers("lsls r1,r2,#N", 0, 31, 1);
        numbers("lsrs r1,r2,#N", 1, 32, 1);
        numbers("asrs r1,r2,#N", 1, 32, 1);
        Check.sentence("ldr, str r,[r,#n] (multiples of 4, 0 .. 124)");
        numbers("ldr r1,[r2,#N]", 0, 124, 4);
        numbers("str r1,[r2,#N]", 0, 124, 4);
        Check.sentence("ldrb, strb r,[r,#n] (0 .. 31)");
        numbers("ldrb r1,[r2,#N]", 0, 31, 1);
        numbers("strb r1,[r2,#N]", 0, 31, 1);
    }

    private static void numbers(String form, int low, int high, int step) {
        int place = form.indexOf('N');
        for (int n = -260; n <= 520; n++) {
            number(form.replace("N", "" + n), n >= low && n <= high && n % step == 0, place);
        }
        for (int n : new int[] {-9999, -9996, -1024, -512, 1020, 1024, 9996, 9999}) {
            number(form.replace("N", "" + n), false, place);
        }
    }

    private static void number(String line, boolean told, int place) {
        if (told) {
            Check.within(line);
        } else {
            Check.outside(line, ThumbLinker.RANGE, place);
        }
    }

    private static void otherForms() {
        Check.sentence("nop. movs r,r; movs r,#n");
        Check.outside("nop r1", ThumbLinker.SIGN, 4);
        Check.outside("movs r1", ThumbLinker.SIGN, 7);
        Check.outside("movs r1,r2,r3", ThumbLinker.SIGN, 10);
        Check.outside("movs r1,#1,r2", ThumbLinker.SIGN, 10);
        Check.sentence("adds, subs r,#n (0 .. 255); r,r,#n (0 .. 7); r,r,r");
        Check.outside("adds r1,r2", ThumbLinker.SIGN, 10);
        Check.outside("subs r1,r2,r3,r4", ThumbLinker.SIGN, 13);
        Check.outside("subs r1,#1,#1", ThumbLinker.SIGN, 10);
        Check.sentence("ands, eors, adcs, sbcs, tst, negs, orrs, muls, bics, mvns r,r");
        for (String word : "ands eors adcs sbcs tst negs orrs muls bics mvns".split(" ")) {
            Check.within(word + " r1,r2");
            Check.outside(word + " r1", ThumbLinker.SIGN, word.length() + 3);
            Check.outside(word + " r1,#2", ThumbLinker.SIGN, word.length() + 4);
            Check.outside(word + " r1,r2,r3", ThumbLinker.SIGN, word.length() + 6);
        }
        Check.sentence("ldr, str r,[r,#n]");
        Check.outside("ldr r1,[r2]", ThumbLinker.SIGN, 10);
        Check.outside("ldr r1,[r2,r3]", ThumbLinker.SIGN, 11);
        Check.outside("ldr r1,[r2,4]", ThumbLinker.SIGN, 11);
        Check.outside("ldr r1,[r2,#4", ThumbLinker.SIGN, 13);
        Check.outside("ldr r1,r2,#4", ThumbLinker.SIGN, 9);
        Check.outside("str r1,[r2,#4]]", ThumbLinker.SIGN, 14);
        Check.sentence("ldr r,NAME");
        Check.within("ldr r1,tail");
        Check.outside("str r1,tail", ThumbLinker.SIGN, 7);
        Check.outside("ldrb r1,tail", ThumbLinker.SIGN, 8);
        Check.outside("strb r1,tail", ThumbLinker.SIGN, 8);
        Check.outside("ldr r1,tail+4", ThumbLinker.SIGN, 11);
    }

    /** Every choice of registers, with and without the last word. */
    private static void lists() {
        Check.sentence("push, pop { one or more of r with , between, each above the one before");
        for (int bits = 1; bits < 256; bits++) {
            StringBuilder list = new StringBuilder();
            for (int r = 0; r <= 7; r++) {
                list.append((bits >> r & 1) == 0 ? "" : list.length() == 0 ? "r" + r : ",r" + r);
            }
            Check.code("push {" + list + "}", 0xB400 + bits);
            Check.code("pop {" + list + "}", 0xBC00 + bits);
            Check.code("push {" + list + ",lr}", 0xB500 + bits);
            Check.code("pop {" + list + ",pc}", 0xBD00 + bits);
        }
        Check.outside("push {}", ThumbLinker.SIGN, 6);
        Check.outside("pop {}", ThumbLinker.SIGN, 5);
        Check.outside("push {,r1}", ThumbLinker.SIGN, 6);
        Check.outside("push {r1,}", ThumbLinker.SIGN, 9);
        Check.outside("push {r1,,r2}", ThumbLinker.SIGN, 9);
        Check.outside("push {r1 r2}", ThumbLinker.SIGN, 9);
        Check.outside("push {r1-r2}", ThumbLinker.SIGN, 8);
        Check.outside("push r1", ThumbLinker.SIGN, 5);
        Check.outside("push {r1", ThumbLinker.SIGN, 8);
        Check.outside("push {r0,r1,r2,r3,r4,r5,r6,r7,r8}", ThumbLinker.SIGN, 30);
        Check.outside("push {r0,r1,r2,r3,r4,r5,r6,r7,}", ThumbLinker.SIGN, 30);
    }

    private static void listOrder() {
        Check.sentence("each above the one before");
        for (int a = 0; a <= 7; a++) {
            for (int b = 0; b <= 7; b++) {
                String list = "{r" + a + ",r" + b + "}";
                if (a < b) {
                    Check.code("push " + list, 0xB400 + (1 << a) + (1 << b));
                } else {
                    Check.outside("push " + list, ThumbLinker.SIGN, 9);
                    Check.outside("pop " + list, ThumbLinker.SIGN, 8);
                }
            }
        }
        Check.outside("push {r1,r3,r2}", ThumbLinker.SIGN, 12);
        Check.sentence("the last one may be lr (push), pc (pop)");
        Check.code("push {lr}", 0xB500);
        Check.code("pop {pc}", 0xBD00);
        Check.outside("push {pc}", ThumbLinker.SIGN, 6);
        Check.outside("pop {lr}", ThumbLinker.SIGN, 5);
        Check.outside("push {lr,r1}", ThumbLinker.SIGN, 8);
        Check.outside("push {lr,lr}", ThumbLinker.SIGN, 8);
        Check.outside("pop {pc,r1}", ThumbLinker.SIGN, 7);
        Check.outside("pop {r1,pc,pc}", ThumbLinker.SIGN, 10);
        Check.outside("push {lr,}", ThumbLinker.SIGN, 8);
        Check.outside("push {r1,pc}", ThumbLinker.SIGN, 9);
        Check.outside("pop {r1,lr}", ThumbLinker.SIGN, 8);
        Check.outside("push {lr", ThumbLinker.SIGN, 8);
        Check.outside("push {l}", ThumbLinker.SIGN, 6);
        Check.outside("push {lrr}", ThumbLinker.SIGN, 6);
    }

    private static void conditions() {
        Check.sentence("b with a condition behind, eq ne cs cc mi pl vs vc hi ls ge lt gt le (0 .. 13)");
        for (char first = 'a'; first <= 'z'; first++) {
            for (char second = 'a'; second <= 'z'; second++) {
                int at = CONDITIONS.indexOf("" + first + second);
                String line = "b" + first + second + " main";
                if (at >= 0 && at % 3 == 0) {
                    Check.code(line, 0xD0FE + 0x100 * (at / 3));
                } else {
                    Check.outside(line, ThumbLinker.SIGN, 0);
                }
            }
        }
        Check.outside("beqq main", ThumbLinker.SIGN, 0);
        Check.outside("be main", ThumbLinker.SIGN, 0);
        Check.outside("beq", ThumbLinker.SIGN, 3);
        Check.outside("beq main main", ThumbLinker.SIGN, 9);
        Check.outside("bleq main", ThumbLinker.SIGN, 0);
    }

    private static void exchanges() {
        Check.sentence("bx r, or lr");
        for (int r = 0; r <= 7; r++) {
            Check.code("bx r" + r, 0x4700 + 8 * r);
        }
        Check.code("bx lr", 0x4770);
        for (String none : new String[] {"r8", "r14", "pc", "sp", "l", "lrr", "lr1", "main", "#1", "1", ""}) {
            Check.outside("bx " + none, ThumbLinker.SIGN, 3);
        }
        Check.outside("bx lr,r1", ThumbLinker.SIGN, 5);
    }

    /** A statement's first word is one of those told: one letter more, or fewer, is none. */
    private static void noOtherWords() {
        Check.sentence("STATEMENTS:");
        for (String word : WORDS) {
            String shorter = word.substring(0, word.length() - 1);
            Check.outside(word + "q", ThumbLinker.SIGN, 0);
            Check.outside(word + "qqqqqq", ThumbLinker.SIGN, 0);
            Check.outside("q" + word, ThumbLinker.SIGN, 0);
            Check.outside(word.toUpperCase(), ThumbLinker.SIGN, 0);
            if (!shorter.isEmpty() && !Arrays.asList(WORDS).contains(shorter)) {
                Check.outside(shorter, ThumbLinker.SIGN, 0);
            }
        }
    }
}
