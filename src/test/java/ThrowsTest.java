/** Every call that throws, after every call of a run: the run answers as the same run without them does. */
public final class ThrowsTest {
    private static final int[] NO_LINES = {-1, 24, Integer.MIN_VALUE, Integer.MAX_VALUE};
    private static final int[] NO_WHATS = {-1, 3, Integer.MIN_VALUE, Integer.MAX_VALUE};
    private static final String[] LINES = {"main: nop", ".global main", "b x", "x: .word 1", ".data", "d: .byte 255"};

    public static void main(String[] args) {
        Check.sentence("IllegalArgument is thrown where a number is none of those told here. What throws changes nothing.");
        for (int moment = 0; moment <= 20; moment++) {
            ThumbLinker plain = new ThumbLinker();
            ThumbLinker other = new ThumbLinker();
            String want = run(plain, -1);
            Check.due("a run with throws at moment " + moment, run(other, moment), want);
        }
        fullObject();
        Check.finish();
    }

    /** The answers of a run, in which all that throws is called at one moment. */
    private static String run(ThumbLinker x, int moment) {
        StringBuilder all = new StringBuilder();
        int now = 0;
        for (String line : LINES) {
            Check.type(x, line);
            throwIf(x, now++ == moment);
            all.append(x.type(0, 0, 0, 0)).append(' ').append(x.add(1)).append(' ');
            throwIf(x, now++ == moment);
            all.append(x.link()).append(' ').append(x.fault(0)).append(x.fault(1)).append(x.fault(2)).append(' ');
            throwIf(x, now++ == moment);
        }
        Check.type(x, ".align");
        throwIf(x, now++ == moment);
        x.change(1, 2);
        throwIf(x, now++ == moment);
        all.append(x.link()).append(' ').append(Check.bytes(x, 0, 20)).append(Check.hexText(x, 0, 80));
        throwIf(x, now == moment);
        return all.append(answers(x)).toString();
    }

    private static String answers(ThumbLinker x) {
        StringBuilder all = new StringBuilder(Check.bytes(x, 0, 20)).append(Check.hexText(x, 0, 80));
        all.append(Check.address(x, 1, "main")).append(' ').append(Check.address(x, 1, "d")).append(' ');
        for (int m = 0; m <= 3; m++) {
            all.append(x.size(m, 0)).append(' ').append(x.size(m, 1)).append(' ').append(x.size(m, 2)).append(' ');
            all.append(m < 3 ? x.fault(m) : x.erase()).append(' ').append(x.drop(m)).append(' ');
        }
        return all.toString();
    }

    private static void throwIf(ThumbLinker x, boolean due) {
        if (due) {
            allThatThrows(x);
        }
    }

    private static void allThatThrows(ThumbLinker x) {
        for (int m : Check.NO_MODULES) {
            Check.thrown("add(" + m + ")", Check.ARGUMENT, () -> x.add(m));
            Check.thrown("change(" + m + ", 0)", Check.ARGUMENT, () -> x.change(m, 0));
            Check.thrown("drop(" + m + ")", Check.ARGUMENT, () -> x.drop(m));
            Check.thrown("address(" + m + ")", Check.ARGUMENT, () -> x.address(m));
            Check.thrown("size(" + m + ", 1)", Check.ARGUMENT, () -> x.size(m, 1));
        }
        for (int line : NO_LINES) {
            Check.thrown("change(1, " + line + ")", Check.ARGUMENT, () -> x.change(1, line));
        }
        Check.thrown("change(2, 0)", Check.ARGUMENT, () -> x.change(2, 0));
        for (int what : NO_WHATS) {
            Check.thrown("fault(" + what + ")", Check.ARGUMENT, () -> x.fault(what));
            Check.thrown("size(1, " + what + ")", Check.ARGUMENT, () -> x.size(1, what));
        }
    }

    private static void fullObject() {
        ThumbLinker x = new ThumbLinker();
        Check.add(x, 0, "main: .byte 1", ".global main");
        for (int k = 2; k < 24; k++) {
            Check.add(x, 0, "n" + k + ":");
        }
        Check.linked(x, "24 lines", 9);
        Check.type(x, " ".repeat(33) + ".byte" + "    255");
        Check.due("45 characters", x.type(0, 0, 0, 0), 45);
        Check.thrown("type of four", Check.STATE, () -> x.type('1' << 24, '2' << 16, '3' << 8, '4'));
        Check.thrown("add of line 25", Check.STATE, () -> x.add(0));
        allThatThrows(x);
        Check.linked(x, "24 lines still", 9);
        Check.due("three more", x.type(' ' << 24, ' ' << 16, ' ' << 8, 0), 48);
        Check.thrown("type of one", Check.STATE, () -> x.type(0, 0, 0, 'x'));
        x.change(0, 23);
        Check.linked(x, "the line that was typed", 10);
        Check.due("its byte", x.octet(9), 255);
        Check.due("how many lines", x.drop(0), 24);
    }
}
