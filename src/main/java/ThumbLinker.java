import java.util.Arrays;

/**
 * Assembles the lines of up to four modules, links them into an image of flash and tells that image
 * as hexadecimal records; each fault is told by module, line and place.
 */
public final class ThumbLinker {
    public static final int NONE = -1;
    public static final int TWICE = -2;
    public static final int SIGN = -3;
    public static final int RANGE = -4;
    public static final int KIND = -5;
    public static final int ALIGN = -6;
    public static final int ROOM = -7;
    public static final int UNKNOWN = -8;
    public static final int FAR = -9;

    private static final int FINE = 0;

    private static final int MODULES = 4;
    private static final int LINES = 24;
    private static final int WIDTH = 48;
    private static final int LONGEST_NAME = 6;
    private static final int MOST_DIGITS = 4;

    private static final int TEXT = 0;
    private static final int DATA = 1;
    private static final int BSS = 2;
    private static final int SECTIONS = 3;

    private static final int SECTION_ROOM = 1024;
    private static final int FLASH_ROOM = 2048;
    private static final int RAM_ROOM = 1024;
    private static final int RAM_START = 0x20000000;
    private static final int STACK_TOP = 0x20000400;
    private static final int VECTOR_BYTES = 8;
    private static final long MAIN = 'm' << 24 | 'a' << 16 | 'i' << 8 | 'n';

    private final Text typed;
    private final Source[] sources;
    private final Parser parser;
    private final Fault lastFault;
    private Build linked;
    private Build draft;

    public ThumbLinker() {
        typed = new Text();
        sources = new Source[MODULES];
        for (int m = 0; m < MODULES; m++) {
            sources[m] = new Source();
        }
        parser = new Parser();
        lastFault = new Fault();
        linked = new Build();
        draft = new Build();
    }

    public int type(int a, int b, int c, int d) throws IllegalStateException {
        int more = Text.charactersIn(a) + Text.charactersIn(b) + Text.charactersIn(c) + Text.charactersIn(d);
        if (typed.length + more > WIDTH) {
            throw new IllegalStateException("more than 48 characters");
        }
        typed.appendFour(a);
        typed.appendFour(b);
        typed.appendFour(c);
        typed.appendFour(d);
        return typed.length;
    }

    public int erase() {
        int gone = typed.length;
        typed.length = 0;
        return gone;
    }

    public int add(int module) throws IllegalArgumentException, IllegalStateException {
        if (!isModule(module)) {
            throw new IllegalArgumentException("no such module");
        }
        Source source = sources[module];
        if (source.count >= LINES) {
            throw new IllegalStateException("the module has 24 lines");
        }
        // A line is read as soon as it stands: only what it says is kept, not its characters.
        parser.parse(typed, source.statements[source.count]);
        source.count++;
        typed.length = 0;
        return source.count;
    }

    public void change(int module, int line) throws IllegalArgumentException {
        if (!isModule(module)) {
            throw new IllegalArgumentException("no such module");
        }
        Source source = sources[module];
        if (line < 0 || line >= source.count) {
            throw new IllegalArgumentException("no such line");
        }
        parser.parse(typed, source.statements[line]);
        typed.length = 0;
    }

    public int drop(int module) throws IllegalArgumentException {
        if (!isModule(module)) {
            throw new IllegalArgumentException("no such module");
        }
        int gone = sources[module].count;
        sources[module].count = 0;
        return gone;
    }

    public int link() {
        lastFault.forget();
        draft.clear();
        if (!layOutLines() || !tellGlobals() || !findRoom() || !writeLines() || !writeVectors()) {
            return lastFault.kind;
        }
        // The two builds change places, so that a link that fails never touches the last good one.
        Build ready = draft;
        draft = linked;
        linked = ready;
        return linked.image.length;
    }

    public int fault(int what) throws IllegalArgumentException {
        switch (what) {
            case 0:
                return lastFault.module;
            case 1:
                return lastFault.line;
            case 2:
                return lastFault.place;
            default:
                throw new IllegalArgumentException("neither 0, 1 nor 2");
        }
    }

    public int octet(int k) {
        return linked.image.byteAt(k);
    }

    public char hex(int k) {
        return linked.image.recordCharacter(k);
    }

    public int address(int module) throws IllegalArgumentException {
        if (!isModule(module)) {
            throw new IllegalArgumentException("no such module");
        }
        return linked.addressOf(linked.labels.find(module, typed.nameBetween(0, typed.length)));
    }

    public int size(int module, int what) throws IllegalArgumentException {
        if (!isModule(module) || what < TEXT || what > BSS) {
            throw new IllegalArgumentException("no such module or section");
        }
        return linked.layout.sizes[module][what];
    }

    private static boolean isModule(int module) {
        return module >= 0 && module < MODULES;
    }

    private static boolean isLetter(char c) {
        return c >= 'a' && c <= 'z';
    }

    private static boolean isDigit(char c) {
        return c >= '0' && c <= '9';
    }

    private boolean layOutLines() {
        for (int m = 0; m < MODULES; m++) {
            Source source = sources[m];
            int section = TEXT;
            for (int k = 0; k < source.count; k++) {
                Statement s = source.statements[k];
                // A label stands left of all that its line can have wrong, so it is looked at first.
                if (s.label != 0 && draft.labels.find(m, s.label) != NONE) {
                    return lastFault.tell(TWICE, m, k, s.labelPlace);
                }
                if (s.fault != FINE) {
                    return lastFault.tell(s.fault, m, k, s.faultPlace);
                }
                int kind = draft.layOut(s, m, section);
                if (kind != FINE) {
                    return lastFault.tell(kind, m, k, s.place);
                }
                section = s.kind == Statement.SECTION ? s.number : section;
            }
        }
        return true;
    }

    private boolean tellGlobals() {
        for (int m = 0; m < MODULES; m++) {
            Source source = sources[m];
            for (int k = 0; k < source.count; k++) {
                Statement s = source.statements[k];
                int kind = s.kind == Statement.GLOBAL ? draft.labels.makeGlobal(m, s.name) : FINE;
                if (kind != FINE) {
                    return lastFault.tell(kind, m, k, s.namePlace);
                }
            }
        }
        return true;
    }

    private boolean findRoom() {
        return draft.layout.arrange() || lastFault.tell(ROOM, NONE, NONE, NONE);
    }

    private boolean writeLines() {
        for (int m = 0; m < MODULES; m++) {
            Source source = sources[m];
            for (int k = 0; k < source.count; k++) {
                int kind = draft.write(source.statements[k], m);
                if (kind != FINE) {
                    return lastFault.tell(kind, m, k, source.statements[k].namePlace);
                }
            }
        }
        return true;
    }

    private boolean writeVectors() {
        int main = draft.labels.findGlobal(MAIN);
        if (main == NONE || draft.labels.sections[main] != TEXT) {
            return lastFault.tell(UNKNOWN, NONE, NONE, NONE);
        }
        draft.image.putWord(0, STACK_TOP);
        draft.image.putWord(4, draft.addressOf(main) + 1);
        draft.image.length = draft.layout.flashEnd;
        return true;
    }

    /** What is typed: up to 48 characters. */
    private static final class Text {
        final char[] characters = new char[WIDTH];
        int length;

        static int charactersIn(int four) {
            int count = 0;
            for (int shift = 24; shift >= 0; shift -= 8) {
                count += (four >>> shift & 255) != 0 ? 1 : 0;
            }
            return count;
        }

        void appendFour(int four) {
            for (int shift = 24; shift >= 0; shift -= 8) {
                int c = four >>> shift & 255;
                if (c != 0 && length < WIDTH) {
                    characters[length] = (char) c;
                    length++;
                }
            }
        }

        /** A NAME as a number, so that names are compared at once; 0 if there is no NAME. */
        long nameBetween(int from, int to) {
            if (from < 0 || to > length || to <= from || to - from > LONGEST_NAME || !isLetter(characters[from])) {
                return 0;
            }
            long name = 0;
            for (int k = from; k < to; k++) {
                if (!isLetter(characters[k]) && !isDigit(characters[k])) {
                    return 0;
                }
                name = name << 8 | characters[k];
            }
            return name;
        }
    }

    /** The lines of a module. */
    private static final class Source {
        final Statement[] statements = new Statement[LINES];
        int count;

        Source() {
            for (int k = 0; k < LINES; k++) {
                statements[k] = new Statement();
            }
        }
    }

    private static final class Fault {
        int kind = FINE;
        int module = NONE;
        int line = NONE;
        int place = NONE;

        void forget() {
            kind = FINE;
            module = NONE;
            line = NONE;
            place = NONE;
        }

        /** Always false, so that a step of the link can end with its fault. */
        boolean tell(int newKind, int newModule, int newLine, int newPlace) {
            kind = newKind;
            module = newModule;
            line = newLine;
            place = newPlace;
            return false;
        }
    }

    /** What a line says, and where in its section its bytes are. */
    private static final class Statement {
        static final int EMPTY = 0;
        static final int SECTION = 1;
        static final int GLOBAL = 2;
        static final int WORD = 3;
        static final int BYTE = 4;
        static final int SPACE = 5;
        static final int PADDING = 6;
        static final int INSTRUCTION = 7;

        static final int NOWHERE = 0;
        static final int JUMP = 1;
        static final int BRANCH = 2;
        static final int CALL = 3;
        static final int LITERAL = 4;

        long label;
        int labelPlace;
        int place;
        int kind;
        int reach;
        int number;
        int bytes;
        long name;
        int namePlace;
        int section;
        int offset;
        int fault;
        int faultPlace;

        void clear() {
            label = 0;
            labelPlace = 0;
            place = 0;
            kind = EMPTY;
            reach = NOWHERE;
            number = 0;
            bytes = 0;
            name = 0;
            namePlace = 0;
            section = TEXT;
            offset = 0;
            fault = FINE;
            faultPlace = 0;
        }
    }

    /** The first words of statements, each with how it goes on and the numbers that its code is made of. */
    private enum Mnemonic {
        SET_TEXT(".text", Mnemonic.SECTION, TEXT, 0),
        SET_DATA(".data", Mnemonic.SECTION, DATA, 0),
        SET_BSS(".bss", Mnemonic.SECTION, BSS, 0),
        TELL_GLOBAL(".global", Mnemonic.GLOBAL, 0, 0),
        PUT_WORD(".word", Mnemonic.WORD, 0, 0),
        PUT_BYTE(".byte", Mnemonic.BYTE, 0, 0),
        PUT_SPACE(".space", Mnemonic.SPACE, 0, 0),
        PUT_PADDING(".align", Mnemonic.PADDING, 0, 0),
        NOP("nop", Mnemonic.ALONE, 0xBF00, 0),
        MOVS("movs", Mnemonic.MOVE, 0x0000, 0x2000),
        CMP("cmp", Mnemonic.MOVE, 0x4280, 0x2800),
        ADDS("adds", Mnemonic.SUM, 0x1800, 0x3000),
        SUBS("subs", Mnemonic.SUM, 0x1A00, 0x3800),
        LSLS("lsls", Mnemonic.SHIFT, 0x0000, 0),
        LSRS("lsrs", Mnemonic.SHIFT, 0x0800, 1),
        ASRS("asrs", Mnemonic.SHIFT, 0x1000, 1),
        ANDS("ands", Mnemonic.PAIR, 0x4000, 0),
        EORS("eors", Mnemonic.PAIR, 0x4040, 0),
        ADCS("adcs", Mnemonic.PAIR, 0x4140, 0),
        SBCS("sbcs", Mnemonic.PAIR, 0x4180, 0),
        TST("tst", Mnemonic.PAIR, 0x4200, 0),
        NEGS("negs", Mnemonic.PAIR, 0x4240, 0),
        ORRS("orrs", Mnemonic.PAIR, 0x4300, 0),
        MULS("muls", Mnemonic.PAIR, 0x4340, 0),
        BICS("bics", Mnemonic.PAIR, 0x4380, 0),
        MVNS("mvns", Mnemonic.PAIR, 0x43C0, 0),
        LDR("ldr", Mnemonic.LOAD, 0x6800, 0x4800),
        STR("str", Mnemonic.MEMORY, 0x6000, 2),
        LDRB("ldrb", Mnemonic.MEMORY, 0x7800, 0),
        STRB("strb", Mnemonic.MEMORY, 0x7000, 0),
        PUSH("push", Mnemonic.PUSHED, 0xB400, 0),
        POP("pop", Mnemonic.POPPED, 0xBC00, 0),
        B("b", Mnemonic.GOING, 0xE000, Statement.JUMP),
        BL("bl", Mnemonic.GOING, 0xF000, Statement.CALL),
        BEQ("beq", Mnemonic.GOING, 0xD000, Statement.BRANCH),
        BNE("bne", Mnemonic.GOING, 0xD100, Statement.BRANCH),
        BCS("bcs", Mnemonic.GOING, 0xD200, Statement.BRANCH),
        BCC("bcc", Mnemonic.GOING, 0xD300, Statement.BRANCH),
        BMI("bmi", Mnemonic.GOING, 0xD400, Statement.BRANCH),
        BPL("bpl", Mnemonic.GOING, 0xD500, Statement.BRANCH),
        BVS("bvs", Mnemonic.GOING, 0xD600, Statement.BRANCH),
        BVC("bvc", Mnemonic.GOING, 0xD700, Statement.BRANCH),
        BHI("bhi", Mnemonic.GOING, 0xD800, Statement.BRANCH),
        BLS("bls", Mnemonic.GOING, 0xD900, Statement.BRANCH),
        BGE("bge", Mnemonic.GOING, 0xDA00, Statement.BRANCH),
        BLT("blt", Mnemonic.GOING, 0xDB00, Statement.BRANCH),
        BGT("bgt", Mnemonic.GOING, 0xDC00, Statement.BRANCH),
        BLE("ble", Mnemonic.GOING, 0xDD00, Statement.BRANCH),
        BX("bx", Mnemonic.EXCHANGE, 0x4700, 0);

        static final int SECTION = 0;
        static final int GLOBAL = 1;
        static final int WORD = 2;
        static final int BYTE = 3;
        static final int SPACE = 4;
        static final int PADDING = 5;
        static final int ALONE = 6;
        static final int MOVE = 7;
        static final int SUM = 8;
        static final int SHIFT = 9;
        static final int PAIR = 10;
        static final int LOAD = 11;
        static final int MEMORY = 12;
        static final int PUSHED = 13;
        static final int POPPED = 14;
        static final int GOING = 15;
        static final int EXCHANGE = 16;

        private static final Mnemonic[] ALL = values();

        final String word;
        final int form;
        final int code;
        final int extra;

        Mnemonic(String word, int form, int code, int extra) {
            this.word = word;
            this.form = form;
            this.code = code;
            this.extra = extra;
        }
    }

    /** Walks over the words and signs of a line; the first fault that it meets is the one it keeps. */
    private static final class Scanner {
        private Text line = new Text();
        private int end;
        int start;
        int fault;
        int faultPlace;

        void begin(Text newLine) {
            line = newLine;
            end = 0;
            fault = FINE;
            faultPlace = 0;
            step();
        }

        void step() {
            start = end;
            while (start < line.length && line.characters[start] == ' ') {
                start++;
            }
            end = start;
            if (start >= line.length) {
                return;
            }
            char first = line.characters[start];
            end++;
            if (first == '.') {
                while (end < line.length && isLetter(line.characters[end])) {
                    end++;
                }
            } else if (isLetter(first) || isDigit(first)) {
                while (end < line.length && (isLetter(line.characters[end]) || isDigit(line.characters[end]))) {
                    end++;
                }
            }
        }

        /** Puts the walk back to a word or sign that began here. */
        void stepBackTo(int place) {
            end = place;
            step();
        }

        void fail(int kind, int place) {
            if (fault == FINE) {
                fault = kind;
                faultPlace = place;
            }
        }

        boolean atEnd() {
            return start >= line.length;
        }

        boolean sees(char sign) {
            return start < line.length && line.characters[start] == sign;
        }

        boolean seesLetter() {
            return start < line.length && isLetter(line.characters[start]);
        }

        boolean seesWord(String word) {
            if (end - start != word.length()) {
                return false;
            }
            for (int k = 0; k < word.length(); k++) {
                if (line.characters[start + k] != word.charAt(k)) {
                    return false;
                }
            }
            return true;
        }

        Mnemonic seenMnemonic() {
            for (int k = 0; k < Mnemonic.ALL.length; k++) {
                if (seesWord(Mnemonic.ALL[k].word)) {
                    return Mnemonic.ALL[k];
                }
            }
            return null;
        }

        int seenRegister() {
            if (end - start != 2 || line.characters[start] != 'r') {
                return NONE;
            }
            char digit = line.characters[start + 1];
            return digit >= '0' && digit <= '7' ? digit - '0' : NONE;
        }

        long seenName() {
            return line.nameBetween(start, end);
        }

        boolean accept(char sign) {
            boolean there = sees(sign);
            if (there) {
                step();
            }
            return there;
        }

        void expect(char sign) {
            if (sees(sign)) {
                step();
            } else {
                fail(SIGN, start);
            }
        }

        int register() {
            int register = seenRegister();
            if (register == NONE) {
                fail(SIGN, start);
                return 0;
            }
            step();
            return register;
        }

        long name() {
            long name = line.nameBetween(start, end);
            if (name == 0) {
                fail(SIGN, start);
            } else {
                step();
            }
            return name;
        }

        int digits() {
            boolean good = end > start && end - start <= MOST_DIGITS;
            int value = 0;
            for (int k = start; good && k < end; k++) {
                good = isDigit(line.characters[k]);
                value = value * 10 + line.characters[k] - '0';
            }
            if (!good) {
                fail(SIGN, start);
                return 0;
            }
            step();
            return value;
        }

        int number(int low, int high) {
            int first = start;
            int value = accept('-') ? -digits() : digits();
            if (value < low || value > high) {
                fail(RANGE, first);
            }
            return value;
        }
    }

    /** Reads a line into a statement. */
    private static final class Parser {
        private final Scanner scan = new Scanner();

        void parse(Text line, Statement s) {
            s.clear();
            scan.begin(line);
            label(s);
            if (!scan.atEnd()) {
                s.place = scan.start;
                Mnemonic first = scan.seenMnemonic();
                if (first == null) {
                    scan.fail(SIGN, scan.start);
                } else if (first.form < Mnemonic.ALONE) {
                    scan.step();
                    directive(first, s);
                } else {
                    scan.step();
                    instruction(first, s);
                }
            }
            if (!scan.atEnd()) {
                scan.fail(SIGN, scan.start);
            }
            s.fault = scan.fault;
            s.faultPlace = scan.faultPlace;
        }

        private void label(Statement s) {
            long name = scan.seenName();
            int place = scan.start;
            if (name == 0) {
                return;
            }
            scan.step();
            if (scan.accept(':')) {
                s.label = name;
                s.labelPlace = place;
            } else {
                scan.stepBackTo(place);
            }
        }

        private void directive(Mnemonic first, Statement s) {
            switch (first.form) {
                case Mnemonic.SECTION:
                    s.kind = Statement.SECTION;
                    s.number = first.code;
                    break;
                case Mnemonic.GLOBAL:
                    s.kind = Statement.GLOBAL;
                    reference(s);
                    break;
                case Mnemonic.WORD:
                    s.kind = Statement.WORD;
                    s.bytes = 4;
                    value(s);
                    break;
                case Mnemonic.BYTE:
                    s.kind = Statement.BYTE;
                    s.bytes = 1;
                    s.number = scan.number(-128, 255);
                    break;
                case Mnemonic.SPACE:
                    s.kind = Statement.SPACE;
                    s.bytes = scan.number(0, 512);
                    break;
                default:
                    s.kind = Statement.PADDING;
                    break;
            }
        }

        private void reference(Statement s) {
            s.namePlace = scan.start;
            s.name = scan.name();
        }

        private void value(Statement s) {
            if (!scan.seesLetter()) {
                s.number = scan.number(-9999, 9999);
                return;
            }
            reference(s);
            if (scan.accept('+')) {
                s.number = scan.digits();
            } else if (scan.accept('-')) {
                s.number = -scan.digits();
            }
        }

        private void instruction(Mnemonic first, Statement s) {
            s.kind = Statement.INSTRUCTION;
            s.bytes = 2;
            switch (first.form) {
                case Mnemonic.MOVE:
                    s.number = move(first);
                    break;
                case Mnemonic.SUM:
                    s.number = sum(first);
                    break;
                case Mnemonic.SHIFT:
                    s.number = shift(first);
                    break;
                case Mnemonic.PAIR:
                    s.number = pair(first);
                    break;
                case Mnemonic.LOAD:
                    s.number = firstRegister();
                    if (scan.sees('[')) {
                        s.number += first.code + memory(2);
                    } else {
                        s.number = first.extra + 0x100 * s.number;
                        s.reach = Statement.LITERAL;
                        reference(s);
                    }
                    break;
                case Mnemonic.MEMORY:
                    s.number = first.code + firstRegister() + memory(first.extra);
                    break;
                case Mnemonic.PUSHED:
                    s.number = first.code + list("lr");
                    break;
                case Mnemonic.POPPED:
                    s.number = first.code + list("pc");
                    break;
                case Mnemonic.GOING:
                    s.number = first.code;
                    s.reach = first.extra;
                    s.bytes = first.extra == Statement.CALL ? 4 : 2;
                    reference(s);
                    break;
                case Mnemonic.EXCHANGE:
                    s.number = first.code + 8 * exchanged();
                    break;
                default:
                    s.number = first.code;
                    break;
            }
        }

        private int firstRegister() {
            int d = scan.register();
            scan.expect(',');
            return d;
        }

        private int move(Mnemonic first) {
            int d = firstRegister();
            if (scan.accept('#')) {
                return first.extra + 0x100 * d + scan.number(0, 255);
            }
            return first.code + 8 * scan.register() + d;
        }

        private int sum(Mnemonic first) {
            int d = firstRegister();
            if (scan.accept('#')) {
                return first.extra + 0x100 * d + scan.number(0, 255);
            }
            int n = scan.register();
            scan.expect(',');
            if (scan.accept('#')) {
                return first.code + 0x400 + 0x40 * scan.number(0, 7) + 8 * n + d;
            }
            return first.code + 0x40 * scan.register() + 8 * n + d;
        }

        private int shift(Mnemonic first) {
            int d = firstRegister();
            int m = scan.register();
            scan.expect(',');
            scan.expect('#');
            int n = scan.number(first.extra, first.extra + 31);
            return first.code + 0x40 * (n & 31) + 8 * m + d;
        }

        private int pair(Mnemonic first) {
            int d = firstRegister();
            return first.code + 8 * scan.register() + d;
        }

        /** What [r,#n] gives to a code; n counts bytes, or words where shift is 2. */
        private int memory(int shift) {
            scan.expect('[');
            int m = scan.register();
            scan.expect(',');
            scan.expect('#');
            int place = scan.start;
            int n = scan.number(0, 31 << shift);
            if (n >> shift << shift != n) {
                scan.fail(RANGE, place);
            }
            scan.expect(']');
            return 0x40 * (n >> shift) + 8 * m;
        }

        private int list(String lastWord) {
            int bits = 0;
            int below = NONE;
            boolean more = true;
            scan.expect('{');
            // Eight registers and the last word are the most that can rise.
            for (int k = 0; k < 9 && more; k++) {
                int register = scan.seenRegister();
                if (scan.seesWord(lastWord)) {
                    bits += 0x100;
                    scan.step();
                    more = false;
                } else if (register > below) {
                    bits += 1 << register;
                    below = register;
                    scan.step();
                    more = scan.accept(',');
                } else {
                    scan.fail(SIGN, scan.start);
                    more = false;
                }
            }
            scan.expect('}');
            return bits;
        }

        private int exchanged() {
            if (scan.seesWord("lr")) {
                scan.step();
                return 14;
            }
            return scan.register();
        }
    }

    /** The labels of one link. A line has one at most, so there is room for all. */
    private static final class Labels {
        private final long[] names = new long[MODULES * LINES];
        private final boolean[] global = new boolean[MODULES * LINES];
        final int[] modules = new int[MODULES * LINES];
        final int[] sections = new int[MODULES * LINES];
        final int[] offsets = new int[MODULES * LINES];
        int count;

        void append(long name, int module, int section, int offset) {
            if (count < MODULES * LINES) {
                names[count] = name;
                global[count] = false;
                modules[count] = module;
                sections[count] = section;
                offsets[count] = offset;
                count++;
            }
        }

        int find(int module, long name) {
            for (int k = 0; k < count; k++) {
                if (modules[k] == module && names[k] == name) {
                    return k;
                }
            }
            return NONE;
        }

        int findGlobal(long name) {
            for (int k = 0; k < count; k++) {
                if (global[k] && names[k] == name) {
                    return k;
                }
            }
            return NONE;
        }

        int makeGlobal(int module, long name) {
            int label = find(module, name);
            if (label == NONE) {
                return UNKNOWN;
            }
            if (findGlobal(name) != NONE) {
                return TWICE;
            }
            global[label] = true;
            return FINE;
        }
    }

    /** How large each section is, and where it lies. */
    private static final class Layout {
        final int[][] sizes = new int[MODULES][SECTIONS];
        final int[][] addresses = new int[MODULES][SECTIONS];
        final int[] dataInFlash = new int[MODULES];
        int flashEnd;

        void clear() {
            for (int m = 0; m < MODULES; m++) {
                Arrays.fill(sizes[m], 0);
                Arrays.fill(addresses[m], 0);
            }
            Arrays.fill(dataInFlash, 0);
            flashEnd = 0;
        }

        boolean arrange() {
            flashEnd = line(TEXT, VECTOR_BYTES);
            for (int m = 0; m < MODULES; m++) {
                dataInFlash[m] = nextFour(flashEnd);
                flashEnd = sizes[m][DATA] > 0 ? dataInFlash[m] + sizes[m][DATA] : flashEnd;
            }
            int ramEnd = line(BSS, line(DATA, RAM_START));
            return flashEnd <= FLASH_ROOM && ramEnd - RAM_START <= RAM_ROOM;
        }

        /** Lays a section of all modules behind what ends here, and answers the new end. */
        private int line(int section, int from) {
            int end = from;
            for (int m = 0; m < MODULES; m++) {
                addresses[m][section] = nextFour(end);
                end = sizes[m][section] > 0 ? addresses[m][section] + sizes[m][section] : end;
            }
            return end;
        }

        private static int nextFour(int place) {
            return (place + 3) & ~3;
        }
    }

    /** The bytes of flash, and their hexadecimal records. */
    private static final class Image {
        private static final String FIRST_RECORD = ":020000040000FA\n";
        private static final String LAST_RECORD = ":00000001FF\n";
        private static final String DIGITS = "0123456789ABCDEF";
        private static final int RECORD_BYTES = 16;
        /** A record's characters beside its bytes: the sign, count, address, kind, sum and end. */
        private static final int RECORD_FRAME = 12;
        private static final int RECORD_WIDTH = RECORD_FRAME + 2 * RECORD_BYTES;

        private final byte[] bytes = new byte[FLASH_ROOM];
        int length;

        void clear() {
            Arrays.fill(bytes, (byte) 0);
            length = 0;
        }

        void putByte(int place, int value) {
            if (place >= 0 && place < FLASH_ROOM) {
                bytes[place] = (byte) value;
            }
        }

        void putHalf(int place, int value) {
            putByte(place, value);
            putByte(place + 1, value >> 8);
        }

        void putWord(int place, int value) {
            putHalf(place, value);
            putHalf(place + 2, value >> 16);
        }

        int byteAt(int k) {
            return k >= 0 && k < length ? bytes[k] & 255 : NONE;
        }

        char recordCharacter(int k) {
            if (k < 0 || length == 0) {
                return ' ';
            }
            if (k < FIRST_RECORD.length()) {
                return FIRST_RECORD.charAt(k);
            }
            int place = k - FIRST_RECORD.length();
            int records = (length + RECORD_BYTES - 1) / RECORD_BYTES;
            int bodyEnd = records * RECORD_FRAME + 2 * length;
            if (place < bodyEnd) {
                return bodyCharacter(place / RECORD_WIDTH, place % RECORD_WIDTH);
            }
            place -= bodyEnd;
            return place < LAST_RECORD.length() ? LAST_RECORD.charAt(place) : ' ';
        }

        private char bodyCharacter(int record, int column) {
            int held = Math.min(RECORD_BYTES, length - record * RECORD_BYTES);
            if (column == 0) {
                return ':';
            }
            if (column == RECORD_FRAME + 2 * held - 1) {
                return '\n';
            }
            int pair = recordByte(record * RECORD_BYTES, held, (column - 1) / 2);
            return DIGITS.charAt((column & 1) == 1 ? pair >> 4 & 15 : pair & 15);
        }

        private int recordByte(int from, int held, int k) {
            if (k == held + 4) {
                int sum = 0;
                for (int each = 0; each < held + 4; each++) {
                    sum += plainRecordByte(from, held, each);
                }
                return -sum & 255;
            }
            return plainRecordByte(from, held, k);
        }

        private int plainRecordByte(int from, int held, int k) {
            switch (k) {
                case 0:
                    return held;
                case 1:
                    return from >> 8 & 255;
                case 2:
                    return from & 255;
                case 3:
                    return 0;
                default:
                    return byteAt(from + k - 4);
            }
        }
    }

    /** All that one link makes. */
    private static final class Build {
        final Labels labels = new Labels();
        final Layout layout = new Layout();
        final Image image = new Image();

        void clear() {
            labels.count = 0;
            layout.clear();
            image.clear();
        }

        int addressOf(int label) {
            if (label < 0 || label >= labels.count) {
                return NONE;
            }
            return layout.addresses[labels.modules[label]][labels.sections[label]] + labels.offsets[label];
        }

        /** Gives a statement its place behind what its section has; answers a fault, or that it is fine. */
        int layOut(Statement s, int module, int section) {
            int offset = layout.sizes[module][section];
            s.section = section;
            s.offset = offset;
            if (s.label != 0) {
                labels.append(s.label, module, section, offset);
            }
            if (s.kind == Statement.PADDING) {
                s.bytes = -offset & 3;
            }
            boolean word = s.kind == Statement.WORD;
            boolean instruction = s.kind == Statement.INSTRUCTION;
            boolean initial = word || s.kind == Statement.BYTE;
            if (initial && section == BSS || instruction && section != TEXT) {
                return KIND;
            }
            if (instruction && (offset & 1) != 0 || word && (offset & 3) != 0) {
                return ALIGN;
            }
            if (offset + s.bytes > SECTION_ROOM) {
                return ROOM;
            }
            layout.sizes[module][section] = offset + s.bytes;
            return FINE;
        }

        /** Writes a statement's bytes into the image; answers a fault, or that it is fine. */
        int write(Statement s, int module) {
            int start = s.section == DATA ? layout.dataInFlash[module] : layout.addresses[module][s.section];
            int place = start + s.offset;
            switch (s.kind) {
                case Statement.WORD:
                    return writeWord(s, module, place);
                case Statement.BYTE:
                    image.putByte(place, s.number);
                    return FINE;
                case Statement.INSTRUCTION:
                    return writeInstruction(s, module, place);
                default:
                    return FINE;
            }
        }

        private int writeWord(Statement s, int module, int place) {
            int label = s.name == 0 ? NONE : resolve(module, s.name);
            if (s.name != 0 && label == NONE) {
                return UNKNOWN;
            }
            image.putWord(place, s.name == 0 ? s.number : addressOf(label) + s.number);
            return FINE;
        }

        private int writeInstruction(Statement s, int module, int place) {
            if (s.reach == Statement.NOWHERE) {
                image.putHalf(place, s.number);
                return FINE;
            }
            int label = resolve(module, s.name);
            if (label == NONE) {
                return UNKNOWN;
            }
            int distance = addressOf(label) - 4 - (s.reach == Statement.LITERAL ? place & ~3 : place);
            boolean near = labels.modules[label] == module && labels.sections[label] == s.section;
            if (!reaches(s.reach, distance, near)) {
                return FAR;
            }
            if (s.reach == Statement.CALL) {
                writeCall(place, s.number, distance >> 1);
            } else {
                image.putHalf(place, s.number + distanceBits(s.reach, distance));
            }
            return FINE;
        }

        private int resolve(int module, long name) {
            int own = labels.find(module, name);
            return own != NONE ? own : labels.findGlobal(name);
        }

        private static boolean reaches(int reach, int distance, boolean near) {
            switch (reach) {
                case Statement.JUMP:
                    return (distance & 1) == 0 && distance >= -2048 && distance <= 2046;
                case Statement.BRANCH:
                    return near && (distance & 1) == 0 && distance >= -256 && distance <= 254;
                case Statement.CALL:
                    return (distance & 1) == 0 && distance >= -(1 << 24) && distance <= (1 << 24) - 2;
                default:
                    return near && (distance & 3) == 0 && distance >= 0 && distance <= 1020;
            }
        }

        private static int distanceBits(int reach, int distance) {
            switch (reach) {
                case Statement.JUMP:
                    return distance >> 1 & 0x7FF;
                case Statement.BRANCH:
                    return distance >> 1 & 0xFF;
                default:
                    return distance >> 2;
            }
        }

        private void writeCall(int place, int code, int half) {
            int s = half >> 23 & 1;
            int i = half >> 22 & 1;
            int j = half >> 21 & 1;
            image.putHalf(place, code + 0x400 * s + (half >> 11 & 0x3FF));
            image.putHalf(place + 2, 0xD000 + (i == s ? 0x2000 : 0) + (j == s ? 0x800 : 0) + (half & 0x7FF));
        }
    }
}
