/** Promises 2 and 3: type and erase. */
public final class TypingTest {
    public static void main(String[] args) {
        ThumbLinker x = new ThumbLinker();
        Check.due("type of nothing", x.type(0, 0, 0, 0), 0);
        Check.due("type of sixteen", x.type(0x61626364, 0x61626364, 0x61626364, 0x61626364), 16);
        Check.due("type of one, the highest byte", x.type(0x61000000, 0, 0, 0), 17);
        Check.due("type of one, the lowest byte", x.type(0, 0, 0, 0x61), 18);
        Check.due("type with gaps", x.type(0x61006200, 0x00630064, 0, 0x65), 23);
        Check.due("type of bytes above 127", x.type(-1, 0x80808080, 0, 0), 31);
        Check.due("erase()", x.erase(), 31);
        Check.due("erase() again", x.erase(), 0);
        limit();
        order();
        Check.finish();
    }

    private static void limit() {
        ThumbLinker x = new ThumbLinker();
        for (int k = 1; k <= 3; k++) {
            Check.due("type " + k, x.type(-1, -1, -1, -1), 16 * k);
        }
        Check.thrown("type of a 49th", Check.STATE, () -> x.type(0, 0, 0, 1));
        Check.due("type of nothing at 48", x.type(0, 0, 0, 0), 48);
        Check.due("erase() after a throw", x.erase(), 48);
        Check.type(x, "0123456789012345678901234567890123456789");
        Check.thrown("type of nine behind forty", Check.STATE, () -> x.type(-1, -1, 0x00010000, 0));
        Check.due("type of eight behind forty", x.type(-1, 0, 0, -1), 48);
    }

    /** The order of the characters shows in a label, whose name must then be the one that is found. */
    private static void order() {
        ThumbLinker x = new ThumbLinker();
        x.type('m' << 24, 'a' << 16, 'i' << 8, 'n');
        Check.due("type of a colon", x.type(0, ':' << 8, 0, 0), 5);
        x.add(0);
        Check.add(x, 0, ".global main");
        Check.linked(x, "main in pieces", 8);
        x.type(0x6d61696e, 0, 0, 0);
        Check.due("address of main", x.address(0), 8);
    }
}
