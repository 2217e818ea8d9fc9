/** 'Terms', FAULTS: which one is told first, at which place, and the first input that has none. */
public final class FaultEdgesTest {
    /** Lines that have one fault each, in the order in which the document looks for them. */
    private static final String[][] FAULTY = {
        {"x:", " x:"}, {"?"}, {".byte 256"}, {".data", " nop"}, {".byte 1", "nop"},
        {".space 512", ".space 512", ".byte 1"},
        {".global q"}, {"x:", ".global x", ".global x"},
        {".data", ".space 512", ".bss", ".space 512", ".space 1"},
        {"b q"}, {".bss", "y:", ".text", "b y"},
        {""}};
    private static final int[] KINDS = {ThumbLinker.TWICE, ThumbLinker.SIGN, ThumbLinker.RANGE, ThumbLinker.KIND,
        ThumbLinker.ALIGN, ThumbLinker.ROOM, ThumbLinker.UNKNOWN, ThumbLinker.TWICE, ThumbLinker.ROOM,
        ThumbLinker.UNKNOWN, ThumbLinker.FAR, ThumbLinker.UNKNOWN};
    private static final int[] PLACES = {1, 0, 6, 1, 0, 0, 8, 8, -1, 2, 2, -1};
    private static final int[] STEPS = {0, 0, 0, 0, 0, 0, 1, 1, 2, 3, 3, 4};

    public static void main(String[] args) {
        stepByStep();
        lineByLine();
        labelsTwice();
        signs();
        ranges();
        fromTheLeft();
        kinds();
        aligns();
        rooms();
        kindThenAlignThenRoom();
        globals();
        unknownAndFar();
        Check.finish();
    }

    /** Of two modules with a fault each, the earlier step's is told; of one step's, the earlier module's. */
    private static void stepByStep() {
        Check.sentence("FAULTS, the first one: MODULE by MODULE, LINE by LINE");
        for (int a = 0; a < FAULTY.length; a++) {
            for (int b = 0; b < FAULTY.length; b++) {
                ThumbLinker x = new ThumbLinker();
                Check.add(x, 1, FAULTY[a]);
                Check.add(x, 3, FAULTY[b]);
                boolean first = STEPS[a] <= STEPS[b];
                told(x, first ? a : b, first ? 1 : 3, FAULTY[a][0] + " .. and " + FAULTY[b][0] + " ..");
            }
        }
    }

    private static void told(ThumbLinker x, int k, int module, String what) {
        boolean nowhere = PLACES[k] < 0;
        Check.fault(x, what, KINDS[k], nowhere ? -1 : module, nowhere ? -1 : FAULTY[k].length - 1, PLACES[k]);
    }

    private static void lineByLine() {
        Check.sentence("FAULTS, the first one: MODULE by MODULE, LINE by LINE");
        String[] lines = {"?", ".byte 256", ".word 1", "x:"};
        int[] kinds = {ThumbLinker.SIGN, ThumbLinker.RANGE, ThumbLinker.ALIGN, ThumbLinker.TWICE};
        int[] places = {0, 6, 0, 0};
        for (int a = 0; a < lines.length; a++) {
            for (int b = 0; b < lines.length; b++) {
                Check.fault(Check.with("x: .byte 1", lines[a], lines[b]), lines[a] + " and " + lines[b], kinds[a], 0, 1,
                    places[a]);
            }
        }
        ThumbLinker x = Check.with("b q", "b r");
        Check.fault(x, "two unknown names", ThumbLinker.UNKNOWN, 0, 0, 2);
        Check.add(x, 0, ".global s", ".global t");
        Check.fault(x, "two unknown globals", ThumbLinker.UNKNOWN, 0, 2, 8);
    }

    private static void labelsTwice() {
        Check.sentence("TWICE, at a LABEL that was there");
        Check.fault(Check.with("x:", "  x : nop"), "one module", ThumbLinker.TWICE, 0, 1, 2);
        Check.fault(Check.with("x:", ".data", "x:"), "two sections", ThumbLinker.TWICE, 0, 2, 0);
        Check.fault(Check.with("abcdef:", "abcdef:"), "six letters", ThumbLinker.TWICE, 0, 1, 0);
        ThumbLinker last = new ThumbLinker();
        for (int k = 0; k < 23; k++) {
            Check.add(last, 3, "n" + k + ":");
        }
        Check.add(last, 3, "n0:");
        Check.fault(last, "the first and the last line", ThumbLinker.TWICE, 3, 23, 0);
        Check.linked(Check.with("main: nop", "main1: nop", "mai: nop", ".global main"), "names that are like", 14);
        ThumbLinker four = Check.with("main:", ".global main");
        for (int m = 1; m <= 3; m++) {
            Check.add(four, m, "main:", "x:");
        }
        Check.linked(four, "one name in each module", 8);
    }

    private static void signs() {
        Check.sentence("SIGN, where it cannot go on (at the first character of a word that cannot be there;"
            + " its length, if it ends too soon)");
        Check.outside("  nopp", ThumbLinker.SIGN, 2);
        Check.outside("movs r1,rrrrrr", ThumbLinker.SIGN, 8);
        Check.outside("movs r1,  r9", ThumbLinker.SIGN, 10);
        Check.outside("movs r1 ; r2", ThumbLinker.SIGN, 8);
        Check.outside("nop   nop", ThumbLinker.SIGN, 6);
        String[] whole = {"movs r1,r2", "adds r1,r2,#3", "ldr r1,[r2,#4]", "push {r1,lr}", "bx lr", "bl main",
            ".word -1", ".byte 1", "lsls r1,r2,#3"};
        int[][] parts = {{4, 7, 8}, {4, 7, 8, 10, 11, 12}, {3, 6, 7, 8, 10, 11, 12, 13}, {4, 6, 8, 9, 11}, {2}, {2},
            {5, 7}, {5}, {4, 7, 8, 10, 11, 12}};
        for (int k = 0; k < whole.length; k++) {
            Check.within(whole[k]);
            for (int length : parts[k]) {
                Check.outside(whole[k].substring(0, length), ThumbLinker.SIGN, length);
                Check.outside(whole[k].substring(0, length) + "   ", ThumbLinker.SIGN, length + 3);
                Check.outside(whole[k].substring(0, length) + " ".repeat(48 - length), ThumbLinker.SIGN, 48);
            }
        }
    }

    private static void ranges() {
        Check.sentence("RANGE, at the first character of a NUMBER (its digits or -) that is none of those told");
        Check.outside("movs r1,#256", ThumbLinker.RANGE, 9);
        Check.outside("movs r1,#  256", ThumbLinker.RANGE, 11);
        Check.outside("movs r1,#-1", ThumbLinker.RANGE, 9);
        Check.outside("movs r1,# -  1", ThumbLinker.RANGE, 10);
        Check.outside("movs r1,#0256", ThumbLinker.RANGE, 9);
        Check.outside("ldr r1,[r2,# 125]", ThumbLinker.RANGE, 13);
        Check.outside(".space   - 1", ThumbLinker.RANGE, 9);
    }

    private static void fromTheLeft() {
        Check.sentence("the first of these in a LINE from the left");
        Check.outside(".byte 256 ?", ThumbLinker.RANGE, 6);
        Check.outside("movs r9,#256", ThumbLinker.SIGN, 5);
        Check.outside("ldr r1,[r2,#128", ThumbLinker.RANGE, 12);
        Check.outside("ldr r1,[r9,#128]", ThumbLinker.SIGN, 8);
        Check.outside("main: ?", ThumbLinker.TWICE, 0);
        Check.outside(" main: .byte 256", ThumbLinker.TWICE, 1);
        Check.outside("main", ThumbLinker.SIGN, 0);
        Check.outside("main main:", ThumbLinker.SIGN, 0);
        Check.outside("q: main:", ThumbLinker.SIGN, 3);
        Check.sentence("the first of these in a LINE from the left; then, at its STATEMENT's first character, KIND");
        Check.fault(Check.with(".bss", ".byte 256"), "RANGE and KIND", ThumbLinker.RANGE, 0, 1, 6);
        Check.fault(Check.with(".bss", ".byte 1 ?"), "SIGN and KIND", ThumbLinker.SIGN, 0, 1, 8);
        Check.fault(Check.with(".bss", "x:", "x: .byte 1"), "TWICE and KIND", ThumbLinker.TWICE, 0, 2, 0);
        Check.fault(Check.with(".byte 1", "movs r1,#256"), "RANGE and ALIGN", ThumbLinker.RANGE, 0, 1, 9);
        Check.fault(Check.with(".space 512", ".space 512", ".space 513"), "RANGE and ROOM", ThumbLinker.RANGE, 0, 2, 7);
    }

    private static void kinds() {
        Check.sentence("KIND: bytes but of .space, .align in BSS, instructions but in TEXT");
        String[] instructions = {"nop", "movs r1,r2", "movs r1,#1", "adds r1,#1", "subs r1,r2,r3", "cmp r1,r2",
            "lsls r1,r2,#1", "mvns r1,r2", "ldr r1,[r2,#4]", "strb r1,[r2,#4]", "ldr r1,main", "push {r1}", "pop {pc}",
            "b main", "bl main", "beq main", "bx lr"};
        String[] bytes = {".word 1", ".word main", ".byte 1", ".word 0", ".byte 0"};
        String[] all = {".space 4", ".space 0", ".align", ".global main", "x:", "", ".text", ".data", ".bss"};
        for (String line : instructions) {
            Check.fault(Check.with("main:", ".data", line), line + " in DATA", ThumbLinker.KIND, 0, 2, 0);
            Check.fault(Check.with("main:", ".bss", "x : " + line), line + " in BSS", ThumbLinker.KIND, 0, 2, 4);
        }
        for (String line : bytes) {
            linked(line, ".text");
            linked(line, ".data");
            Check.fault(Check.with("main:", ".bss", " " + line), line + " in BSS", ThumbLinker.KIND, 0, 2, 1);
        }
        for (String line : all) {
            linked(line, ".text");
            linked(line, ".data");
            linked(line, ".bss");
        }
    }

    private static void linked(String line, String section) {
        ThumbLinker x = Check.with("main:", section, line);
        if (!line.equals(".global main")) {
            Check.add(x, 0, ".global main");
        }
        int got = x.link();
        Check.due("'" + line + "' in " + section + " links (0 if it does)", Math.min(got, 0), 0);
    }

    private static void aligns() {
        Check.sentence("ALIGN: an instruction at an odd place, .word at one that is no multiple of 4 (of its SECTION)");
        for (int n = 0; n <= 9; n++) {
            String before = ".space " + n;
            for (String line : new String[] {"nop", "bl main", "bx lr", "b main"}) {
                placed(line, n % 2 == 0, "main:", ".global main", ".text", before);
            }
            placed(".word 1", n % 4 == 0, "main:", ".global main", ".text", before);
            placed(".word 1", n % 4 == 0, "main:", ".global main", ".data", before);
            placed(".byte 1", true, "main:", ".global main", ".text", before);
            placed(".space 1", true, "main:", ".global main", ".bss", before);
            // What the other sections have does not count.
            placed("nop", true, "main:", ".global main", ".data", before, ".text");
            placed(".word 1", true, "main:", ".global main", before, ".data");
        }
    }

    private static void placed(String line, boolean fits, String... before) {
        ThumbLinker x = Check.with(before);
        Check.add(x, 0, "  x: " + line);
        int got = x.link();
        String what = String.join(" / ", before) + " / " + line;
        Check.due(what, Math.min(got, 0), fits ? 0 : ThumbLinker.ALIGN);
        Check.due(what + ": fault(1)", x.fault(1), fits ? -1 : before.length);
        Check.due(what + ": fault(2)", x.fault(2), fits ? -1 : 5);
    }

    private static void rooms() {
        Check.sentence("ROOM, a SECTION of more than 1024 bytes");
        room(".text", 1022, "nop", true);
        room(".text", 1024, "nop", false);
        room(".text", 1020, "bl main", true);
        room(".text", 1022, "bl main", false);
        for (String section : new String[] {".text", ".data"}) {
            room(section, 1023, ".byte 1", true);
            room(section, 1024, ".byte 1", false);
            room(section, 1020, ".word 1", true);
            room(section, 1024, ".word 1", false);
        }
        for (String section : new String[] {".text", ".data", ".bss"}) {
            room(section, 1021, ".align", true);
            room(section, 1024, ".align", true);
            room(section, 1024, ".space 0", true);
            room(section, 1023, ".space 1", true);
            room(section, 1023, ".space 2", false);
            room(section, 1024, ".space 1", false);
            room(section, 512, ".space 512", true);
            room(section, 513, ".space 512", false);
            room(section, 1024, ".global x", true);
        }
    }

    private static void room(String section, int bytes, String line, boolean fits) {
        for (int m = 1; m <= 3; m += 2) {
            ThumbLinker x = Check.with("main:", ".global main");
            Check.add(x, m, section, ".space 512", ".space " + (bytes - 512), " x: " + line);
            String what = line + " at " + bytes + " of " + section;
            int got = x.link();
            Check.due(what, Math.min(got, 0), fits ? 0 : ThumbLinker.ROOM);
            Check.due(what + ": fault(0)", x.fault(0), fits ? -1 : m);
            Check.due(what + ": fault(1)", x.fault(1), fits ? -1 : 3);
            Check.due(what + ": fault(2)", x.fault(2), fits ? -1 : 4);
        }
    }

    private static void kindThenAlignThenRoom() {
        Check.sentence("then, at its STATEMENT's first character, KIND: .. ALIGN: .. ROOM, a SECTION");
        Check.fault(Check.with(".data", ".byte 1", "nop"), "KIND and ALIGN", ThumbLinker.KIND, 0, 2, 0);
        Check.fault(Check.with(".bss", ".space 1", ".word 1"), "KIND and ALIGN", ThumbLinker.KIND, 0, 2, 0);
        Check.fault(Check.with(".bss", ".space 512", ".space 512", ".byte 1"), "KIND and ROOM", ThumbLinker.KIND, 0, 3,
            0);
        Check.fault(Check.with(".space 512", ".space 511", "nop"), "ALIGN and ROOM", ThumbLinker.ALIGN, 0, 2, 0);
        Check.fault(Check.with(".space 512", ".space 510", ".word 1"), "ALIGN and ROOM", ThumbLinker.ALIGN, 0, 2, 0);
    }

    private static void globals() {
        Check.sentence("UNKNOWN, TWICE at a .global's NAME (that has no LABEL; that an earlier .global told,"
            + " of any MODULE)");
        ThumbLinker x = Check.with("main:", ".global main", "a: .global  a");
        Check.add(x, 1, "a:", "main:");
        Check.linked(x, "labels alike, one of them global", 8);
        Check.add(x, 1, "x : .global  a");
        Check.fault(x, "told by an earlier module", ThumbLinker.TWICE, 1, 2, 13);
        x.drop(0);
        Check.fault(x, "told once", ThumbLinker.UNKNOWN, -1, -1, -1);
        Check.add(x, 1, ".global a");
        Check.fault(x, "told by an earlier line", ThumbLinker.TWICE, 1, 3, 8);
        x.drop(1);
        Check.add(x, 1, "a:", ".global a");
        Check.add(x, 3, "  .global a");
        Check.fault(x, "no label, and told earlier", ThumbLinker.UNKNOWN, 3, 0, 10);
        Check.add(x, 3, "a:");
        Check.fault(x, "a label, and told earlier", ThumbLinker.TWICE, 3, 0, 10);
    }

    private static void unknownAndFar() {
        Check.sentence("UNKNOWN, at a NAME; FAR, at it");
        String[] lines = {" b  q", "bl q", "bcs  q", "ldr r1, q", "x:b q"};
        for (String line : lines) {
            int place = line.lastIndexOf('q');
            ThumbLinker x = Check.with("main:", ".global main", line);
            Check.fault(x, line + ", no q", ThumbLinker.UNKNOWN, 0, 2, place);
            Check.add(x, 0, ".bss", "q:");
            Check.fault(x, line + ", q far", ThumbLinker.FAR, 0, 2, place);
            Check.type(x, ".align");
            x.change(0, 3);
            Check.linked(x, line + ", q near", 12);
        }
        ThumbLinker word = Check.with("main:", ".global main", ".word  q - 1");
        Check.fault(word, ".word, no q", ThumbLinker.UNKNOWN, 0, 2, 7);
        Check.add(word, 0, ".bss", "q:");
        Check.linked(word, ".word, q in BSS", 12);
        Check.sentence("Then UNKNOWN in no MODULE: there is no main");
        Check.fault(Check.with("nop"), "no main", ThumbLinker.UNKNOWN, -1, -1, -1);
        Check.linked(Check.with("main:nop", ".global main"), "a main", 10);
    }
}
