/** 'Terms', its first part: the edges of MODULES, LINES, blanks, LABELS, NAMES, NUMBERS, REGISTERS and words. */
public final class LineEdgesTest {
    private static final String BLANKS = " ".repeat(48);
    private static final String[] REGISTER_FORMS = {"movs R,r1", "movs r1,R", "movs R,#1", "cmp R,r1", "cmp r1,R",
        "cmp R,#1", "adds R,#1", "adds R,r1,#1", "adds r1,R,#1", "adds R,r1,r1", "adds r1,R,r1", "adds r1,r1,R",
        "subs R,#1", "subs R,r1,#1", "subs r1,R,#1", "subs R,r1,r1", "subs r1,R,r1", "subs r1,r1,R", "lsls R,r1,#1",
        "lsls r1,R,#1", "lsrs R,r1,#1", "lsrs r1,R,#1", "asrs R,r1,#1", "asrs r1,R,#1", "ands R,r1", "ands r1,R",
        "eors R,r1", "adcs r1,R", "sbcs R,r1", "tst r1,R", "negs R,r1", "orrs r1,R", "muls R,r1", "bics r1,R",
        "mvns R,r1", "ldr R,[r1,#4]", "ldr r1,[R,#4]", "str R,[r1,#4]", "str r1,[R,#4]", "ldrb R,[r1,#4]",
        "ldrb r1,[R,#4]", "strb R,[r1,#4]", "strb r1,[R,#4]", "ldr R,tail", "push {R}", "pop {R}", "bx R"};
    private static final String[] NO_REGISTERS = {"r8", "r9", "r", "r00", "r07", "r10", "r1x", "rr", "R0", "x0", "0",
        "r/", "r:", "r 0", "sp", "-r0"};
    private static final String[] NUMBER_FORMS = {".word N", ".byte N", ".space N", "movs r1,#N", "cmp r1,#N",
        "adds r1,#N", "subs r1,#N", "adds r1,r2,#N", "subs r1,r2,#N", "lsls r1,r2,#N", "lsrs r1,r2,#N",
        "asrs r1,r2,#N", "ldr r1,[r2,#N]", "str r1,[r2,#N]", "ldrb r1,[r2,#N]", "strb r1,[r2,#N]"};

    public static void main(String[] args) {
        modules();
        lines();
        mostLabels();
        characters();
        blanks();
        blanksInsideWords();
        parts();
        names();
        noNames();
        namesOfAnyCharacter();
        numbers();
        numbersWithoutSign();
        registers();
        words();
        Check.finish();
    }

    private static void modules() {
        Check.sentence("MODULES 0 .. 3");
        for (int m = 0; m <= 3; m++) {
            ThumbLinker x = new ThumbLinker();
            Check.add(x, m, "main:", ".global main");
            Check.due("add(" + m + ")", x.add(m), 3);
            Check.type(x, "nop");
            x.change(m, 2);
            Check.linked(x, "module " + m, 10);
            Check.due("address(" + m + ")", Check.address(x, m, "main"), 8);
            Check.due("size(" + m + ", 0)", x.size(m, 0), 2);
            Check.due("drop(" + m + ")", x.drop(m), 3);
        }
        ThumbLinker x = Check.with("nop");
        for (int m : Check.NO_MODULES) {
            Check.thrown("add(" + m + ")", Check.ARGUMENT, () -> x.add(m));
            Check.thrown("change(" + m + ", 0)", Check.ARGUMENT, () -> x.change(m, 0));
            Check.thrown("drop(" + m + ")", Check.ARGUMENT, () -> x.drop(m));
            Check.thrown("address(" + m + ")", Check.ARGUMENT, () -> x.address(m));
            Check.thrown("size(" + m + ", 0)", Check.ARGUMENT, () -> x.size(m, 0));
        }
    }

    private static void lines() {
        Check.sentence("have up to 24 LINES");
        for (int m = 0; m <= 3; m++) {
            int module = m;
            ThumbLinker x = new ThumbLinker();
            for (int k = 1; k <= 23; k++) {
                Check.due("add of line " + k, x.add(m), k);
            }
            Check.type(x, "?");
            Check.due("add of line 24", x.add(m), 24);
            Check.fault(x, "line 24 is read", ThumbLinker.SIGN, m, 23, 0);
            Check.type(x, "nop");
            Check.thrown("add of line 25", Check.STATE, () -> x.add(module));
            Check.thrown("change of line 25", Check.ARGUMENT, () -> x.change(module, 24));
            x.change(m, 23);
            Check.fault(x, "line 24 is changed", ThumbLinker.UNKNOWN, -1, -1, -1);
            Check.due("drop(" + m + ")", x.drop(m), 24);
        }
    }

    /** Each of the 96 lines that there can be has a label. */
    private static void mostLabels() {
        Check.sentence("MODULES 0 .. 3 have up to 24 LINES");
        ThumbLinker x = Check.with("main: .global main");
        for (int k = 1; k < 96; k++) {
            Check.add(x, k / 24, "n" + k + ": .byte 1");
        }
        Check.linked(x, "96 labels", 8 + 24 + 24 + 24 + 24);
        Check.due("main", Check.address(x, 0, "main"), 8);
        for (int k = 1; k < 96; k++) {
            Check.due("n" + k, Check.address(x, k / 24, "n" + k), k < 24 ? 8 + k - 1 : 8 + k);
        }
    }

    private static void characters() {
        Check.sentence("LINES of up to 48 characters");
        Check.code(BLANKS.substring(3) + "nop", 0xBF00);
        Check.within(BLANKS);
        Check.outside(BLANKS.substring(1) + "?", ThumbLinker.SIGN, 47);
        Check.outside("movs" + BLANKS.substring(4), ThumbLinker.SIGN, 48);
        Check.outside(BLANKS.substring(12) + ".word abcdef", ThumbLinker.UNKNOWN, 42);
        ThumbLinker x = new ThumbLinker();
        Check.type(x, BLANKS.substring(3) + "nop");
        Check.thrown("type of character 49", Check.STATE, () -> x.type('x', 0, 0, 0));
        Check.due("add of 48 characters", x.add(0), 1);
    }

    /** Fills one gap after another with all the blanks that a line has room for. */
    private static void gaps(String want, String... parts) {
        for (int gap = -1; gap <= parts.length; gap++) {
            String line = spaced(parts, gap);
            ThumbLinker x = Check.with("main:", ".global main", line);
            Check.linked(x, "'" + line + "'", 8 + want.length() / 2);
            Check.due("bytes of '" + line + "'", Check.bytes(x, 8, 8 + want.length() / 2), want);
        }
    }

    private static String spaced(String[] parts, int gap) {
        StringBuilder line = new StringBuilder();
        int place = 0;
        for (int k = 0; k < parts.length; k++) {
            boolean joined = k > 0 && isWordEnd(parts[k - 1]) && isWordEnd(parts[k]);
            line.append(joined ? " " : "");
            place = k == gap ? line.length() : place;
            line.append(parts[k]);
        }
        place = gap == parts.length ? line.length() : place;
        return gap < 0 ? line.toString() : line.insert(place, BLANKS.substring(line.length())).toString();
    }

    private static boolean isWordEnd(String part) {
        return Character.isLetterOrDigit(part.charAt(part.length() - 1));
    }

    private static void blanks() {
        Check.sentence("blanks stand between words and signs, - and # too, as many as you like");
        gaps("00BF", "nop");
        gaps("", "x", ":");
        gaps("00BF", "x", ":", "nop");
        gaps("1100", "movs", "r1", ",", "r2");
        gaps("0021", "movs", "r1", ",", "#", "-", "0");
        gaps("D11C", "adds", "r1", ",", "r2", ",", "#", "3");
        gaps("D118", "adds", "r1", ",", "r2", ",", "r3");
        gaps("5168", "ldr", "r1", ",", "[", "r2", ",", "#", "4", "]");
        gaps("02B5", "push", "{", "r1", ",", "lr", "}");
        gaps("06BD", "pop", "{", "r1", ",", "r2", ",", "pc", "}");
        gaps("FBFFFFFF", ".word", "-", "5");
        gaps("FFFFFFFF", ".word", "main", "-", "9");
        gaps("11000000", ".word", "main", "+", "9");
        gaps("80", ".byte", "-", "128");
        gaps("0000", ".space", "2");
        gaps("", ".align");
        gaps("", "x", ":", ".global", "x");
        gaps("FEE7", "b", "main");
        gaps("FEDD", "ble", "main");
        gaps("FFF7FEFF", "bl", "main");
        gaps("7047", "bx", "lr");
    }

    private static void blanksInsideWords() {
        Check.sentence("A word is small letters and digits that stand together");
        Check.outside("no p", ThumbLinker.SIGN, 0);
        Check.outside("ab c: nop", ThumbLinker.SIGN, 0);
        Check.outside("movs r 1,r2", ThumbLinker.SIGN, 5);
        Check.outside("movs r1,#1 2", ThumbLinker.SIGN, 11);
        Check.outside("push {l r}", ThumbLinker.SIGN, 6);
        Check.outside(".word ta il", ThumbLinker.SIGN, 9);
        Check.outside(". word 1", ThumbLinker.SIGN, 0);
        Check.outside(".wo rd 1", ThumbLinker.SIGN, 0);
        Check.outside("b eq tail", ThumbLinker.SIGN, 5);
    }

    private static void parts() {
        Check.sentence("perhaps a NAME and : (a LABEL), then nothing, or a STATEMENT");
        Check.within("");
        Check.within("x:");
        Check.code("nop", 0xBF00);
        Check.code("x:nop", 0xBF00);
        Check.outside("x", ThumbLinker.SIGN, 0);
        Check.outside(":", ThumbLinker.SIGN, 0);
        Check.outside(":nop", ThumbLinker.SIGN, 0);
        Check.outside("x::", ThumbLinker.SIGN, 2);
        Check.outside("x:y:", ThumbLinker.SIGN, 2);
        Check.outside("x nop", ThumbLinker.SIGN, 0);
        Check.outside("nop:nop:nop", ThumbLinker.SIGN, 7);
        Check.outside("x:nop nop", ThumbLinker.SIGN, 6);
        Check.outside("nop,", ThumbLinker.SIGN, 3);
        Check.outside(".text:", ThumbLinker.SIGN, 5);
    }

    private static void names() {
        Check.sentence("NAMES are one to six small letters and digits, the first a letter (such as r1 and nop, too)");
        String[] names = {"a", "z", "a0", "z9", "abcdef", "a12345", "zzzzzz", "z99999", "r1", "r7", "nop", "b", "lr",
            "pc", "bl", "movs"};
        for (String name : names) {
            ThumbLinker x = Check.with("main:", ".global main", name + ": .word " + name, ".global " + name);
            Check.add(x, 1, ".word " + name + "+1");
            Check.linked(x, name, 16);
            Check.due(name + " as .word's", Check.word(x, 8), 8);
            Check.due(name + " of another module", Check.word(x, 12), 9);
            Check.due("address of " + name, Check.address(x, 0, name), 8);
            ThumbLinker y = Check.with("main:", ".global main", "ldr r0," + name, "b " + name, name + ":",
                "beq " + name, "bl " + name);
            Check.linked(y, name + " of instructions", 18);
            Check.due(name + " of instructions", Check.bytes(y, 8, 18), "0048FFE7FED0FFF7FDFF");
        }
    }

    private static void noNames() {
        Check.sentence("NAMES are one to six small letters and digits, the first a letter");
        String[] none = {"abcdefg", "a123456", "1", "0a", "9bcdef", "A", "Z1", "`", "{", "@", "[", "/", ".a", "", "-a"};
        for (String name : none) {
            Check.outside(name + ": nop", ThumbLinker.SIGN, 0);
            Check.outside("b " + name, ThumbLinker.SIGN, 2);
            Check.outside("bl " + name, ThumbLinker.SIGN, 3);
            Check.outside("bhi " + name, ThumbLinker.SIGN, 4);
            Check.outside(".global " + name, ThumbLinker.SIGN, 8);
            Check.due("address of '" + name + "'", Check.address(Check.with(), 0, name), -1);
        }
        Check.outside("ldr r1,abcdefg", ThumbLinker.SIGN, 7);
        Check.outside("ldr r1,1", ThumbLinker.SIGN, 7);
        Check.outside("ldr r1,", ThumbLinker.SIGN, 7);
        Check.outside(".word abcdefg", ThumbLinker.SIGN, 6);
        Check.outside(".word A", ThumbLinker.SIGN, 6);
        Check.outside(".word", ThumbLinker.SIGN, 5);
    }

    private static void namesOfAnyCharacter() {
        Check.sentence("NAMES are one to six small letters and digits");
        for (char c = 1; c < 256; c++) {
            boolean joins = c >= 'a' && c <= 'z' || c >= '0' && c <= '9';
            if (joins || c == ' ') {
                Check.code("q" + c + ": nop", 0xBF00);
                Check.outside("b q" + c, ThumbLinker.UNKNOWN, 2);
            } else {
                Check.outside("q" + c + ": nop", ThumbLinker.SIGN, c == ':' ? 2 : 0);
                Check.outside("b q" + c, ThumbLinker.SIGN, 3);
            }
        }
    }

    /** 4 is a number that every one of the forms may have. */
    private static void numbers() {
        Check.sentence("NUMBERS: perhaps -, one to four digits (more: SIGN at the first of them)");
        for (String form : NUMBER_FORMS) {
            int place = form.indexOf('N');
            int code = Check.within(form.replace("N", "4"));
            for (String number : new String[] {"04", "004", "0004"}) {
                Check.code(form.replace("N", number), code);
            }
            Check.outside(form.replace("N", "00004"), ThumbLinker.SIGN, place);
            Check.outside(form.replace("N", "00000004"), ThumbLinker.SIGN, place);
            Check.outside(form.replace("N", "-00004"), ThumbLinker.SIGN, place + 1);
            Check.outside(form.replace("N", " -  99999"), ThumbLinker.SIGN, place + 4);
            Check.outside(form.replace("N", ""), ThumbLinker.SIGN, place);
            Check.outside(form.replace("N", "-"), ThumbLinker.SIGN, place + 1);
            Check.outside(form.replace("N", "--4"), ThumbLinker.SIGN, place + 1);
            Check.outside(form.replace("N", "+4"), ThumbLinker.SIGN, place);
            Check.outside(form.replace("N", "4x"), ThumbLinker.SIGN, place);
            Check.outside(form.replace("N", "-4x"), ThumbLinker.SIGN, place + 1);
            Check.outside(form.replace("N", "4 4"), ThumbLinker.SIGN, place + 2);
            Check.outside(form.replace("N", "#4"), ThumbLinker.SIGN, place);
            Check.outside(form.replace("N", "-x"), ThumbLinker.SIGN, place + 1);
        }
        Check.code(".word 9999", 9999);
        Check.code(".word -9999", -9999 & 0xFFFF);
        Check.code(".byte -0000", 0);
    }

    private static void numbersWithoutSign() {
        Check.sentence("perhaps + or - and a NUMBER without sign");
        for (String sign : new String[] {"+", "-"}) {
            Check.code(".word main" + sign + "0008", 8 + (sign.equals("+") ? 8 : -8));
            Check.within(".word main" + sign + "9999");
            Check.outside(".word main" + sign + "10000", ThumbLinker.SIGN, 11);
            Check.outside(".word main" + sign, ThumbLinker.SIGN, 11);
            Check.outside(".word main" + sign + "-1", ThumbLinker.SIGN, 11);
            Check.outside(".word main" + sign + "+1", ThumbLinker.SIGN, 11);
            Check.outside(".word main" + sign + "main", ThumbLinker.SIGN, 11);
            Check.outside(".word main" + sign + "1" + sign + "1", ThumbLinker.SIGN, 12);
            Check.outside(".word 1" + sign + "1", ThumbLinker.SIGN, 7);
        }
    }

    private static void registers() {
        Check.sentence("REGISTERS r: r0 .. r7");
        for (String form : REGISTER_FORMS) {
            int place = form.indexOf('R');
            for (int r = 0; r <= 7; r++) {
                Check.within(form.replace("R", "r" + r));
            }
            for (String none : NO_REGISTERS) {
                Check.outside(form.replace("R", none), ThumbLinker.SIGN, place);
            }
        }
    }

    private static void words() {
        Check.sentence("A word is small letters and digits that stand together (or a . and small letters)");
        Check.code("x:movs r1,r2", 0x0011);
        Check.code(".byte7", 7);
        Check.code(".byte-1", 0xFF);
        Check.code(".word4", 4);
        Check.code("push{r1}", 0xB402);
        Check.outside("movsr1,r2", ThumbLinker.SIGN, 0);
        Check.outside("nop1", ThumbLinker.SIGN, 0);
        Check.outside("1nop", ThumbLinker.SIGN, 0);
        Check.outside("nop.", ThumbLinker.SIGN, 3);
        Check.outside(".wordmain", ThumbLinker.SIGN, 0);
        Check.outside(".text1", ThumbLinker.SIGN, 5);
        Check.outside("..text", ThumbLinker.SIGN, 0);
        Check.outside(".", ThumbLinker.SIGN, 0);
        Check.outside(".tEXT", ThumbLinker.SIGN, 0);
        Check.outside(".text.text", ThumbLinker.SIGN, 5);
        Check.outside("text", ThumbLinker.SIGN, 0);
        Check.outside("bmain", ThumbLinker.SIGN, 0);
    }
}
