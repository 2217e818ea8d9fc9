/** Promises 4, 5 and 6: add, change and drop. */
public final class LinesTest {
    public static void main(String[] args) {
        adding();
        changing();
        changingKinds();
        dropping();
        Check.finish();
    }

    private static void adding() {
        ThumbLinker x = new ThumbLinker();
        for (int m = 0; m < 4; m++) {
            for (int k = 1; k <= 24; k++) {
                Check.type(x, "nop");
                Check.due("add(" + m + ")", x.add(m), k);
                Check.due("what is typed then", x.erase(), 0);
            }
            int full = m;
            Check.type(x, "abc");
            Check.thrown("add of a 25th", Check.STATE, () -> x.add(full));
            Check.due("what is typed after a throw", x.erase(), 3);
        }
        Check.type(x, "abcd");
        for (int m : Check.NO_MODULES) {
            Check.thrown("add(" + m + ")", Check.ARGUMENT, () -> x.add(m));
        }
        Check.due("what is typed after throws", x.erase(), 4);
        Check.due("lines after throws", x.drop(0), 24);
        Check.due("add of an empty line", x.add(0), 1);
    }

    private static void changing() {
        ThumbLinker x = Check.with(".global main", "main: foo", "nop");
        Check.fault(x, "before", ThumbLinker.SIGN, 0, 1, 6);
        Check.type(x, "main: nop");
        for (int m : Check.NO_MODULES) {
            Check.thrown("change(" + m + ", 0)", Check.ARGUMENT, () -> x.change(m, 0));
        }
        Check.thrown("change(1, 0)", Check.ARGUMENT, () -> x.change(1, 0));
        Check.thrown("change(0, 3)", Check.ARGUMENT, () -> x.change(0, 3));
        Check.thrown("change(0, -1)", Check.ARGUMENT, () -> x.change(0, -1));
        Check.thrown("change(0, MIN)", Check.ARGUMENT, () -> x.change(0, Integer.MIN_VALUE));
        Check.due("typed after throws", x.type(0, 0, 0, 0), 9);
        x.change(0, 1);
        Check.due("typed after change", x.erase(), 0);
        Check.linked(x, "after", 12);
        x.change(0, 2);
        Check.linked(x, "a line made empty", 10);
        x.change(0, 0);
        Check.fault(x, "line 0 made empty", ThumbLinker.UNKNOWN, -1, -1, -1);
        Check.due("lines", x.drop(0), 3);
        Check.thrown("change of a dropped line", Check.ARGUMENT, () -> x.change(0, 0));
    }

    /** Nothing of what a line said before may be left when it says something else. */
    private static void changingKinds() {
        String[] lines = {"b main", ".word main+5", ".word main", ".word 7", "nop", "", ".global main", "ldr r1,[r2,#4]",
            ".space 3", ".align", "x: nop", "bx lr", ".byte 9", ".data", "x:", "foo", "movs r1,#256"};
        for (String before : lines) {
            for (String after : lines) {
                ThumbLinker changed = Check.with(before, ".text", ".align", "main: nop", ".align", ".word 0");
                changed.link();
                Check.type(changed, after);
                changed.change(0, 0);
                ThumbLinker fresh = Check.with(after, ".text", ".align", "main: nop", ".align", ".word 0");
                Check.add(changed, 1, "main: nop");
                Check.add(fresh, 1, "main: nop");
                same(changed, fresh, before + " changed to " + after);
                Check.add(changed, 0, ".global main");
                Check.add(fresh, 0, ".global main");
                same(changed, fresh, before + " changed to " + after + ", main told");
            }
        }
    }

    private static void same(ThumbLinker changed, ThumbLinker fresh, String what) {
        int length = fresh.link();
        Check.due(what, changed.link(), length);
        for (int k = 0; k < 3; k++) {
            Check.due(what + ": fault(" + k + ")", changed.fault(k), fresh.fault(k));
        }
        // After a fault the changed one still has the image of its first link.
        Check.due(what, Check.bytes(changed, 0, length), Check.bytes(fresh, 0, length));
    }

    private static void dropping() {
        ThumbLinker x = Check.with("main: nop", ".global main");
        Check.add(x, 3, "nop");
        for (int m : Check.NO_MODULES) {
            Check.thrown("drop(" + m + ")", Check.ARGUMENT, () -> x.drop(m));
        }
        Check.linked(x, "both", 14);
        Check.type(x, "nop");
        Check.due("drop(3)", x.drop(3), 1);
        Check.due("drop(3) again", x.drop(3), 0);
        Check.due("drop keeps what is typed", x.erase(), 3);
        Check.due("the image stays until the next link", x.octet(13), 0xBF);
        Check.linked(x, "one", 10);
        Check.due("add after drop", x.add(3), 1);
        Check.linked(x, "the line dropped is not there again", 10);
    }
}
