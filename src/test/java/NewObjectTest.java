/** Promise 1: what a new object answers. */
public final class NewObjectTest {
    public static void main(String[] args) {
        constants();
        ThumbLinker x = new ThumbLinker();
        Check.due("erase()", x.erase(), 0);
        Check.due("octet(0)", x.octet(0), -1);
        Check.due("hex(0)", x.hex(0), ' ');
        for (int k = 0; k < 3; k++) {
            Check.due("fault(" + k + ")", x.fault(k), -1);
        }
        for (int m = 0; m < 4; m++) {
            Check.due("address(" + m + ")", x.address(m), -1);
            Check.due("drop(" + m + ")", x.drop(m), 0);
            for (int what = 0; what < 3; what++) {
                Check.due("size(" + m + ", " + what + ")", x.size(m, what), 0);
            }
        }
        Check.thrown("change(0, 0)", Check.ARGUMENT, () -> x.change(0, 0));
        Check.fault(x, "new", ThumbLinker.UNKNOWN, -1, -1, -1);
        ownState();
        Check.finish();
    }

    private static void constants() {
        int[] got = {ThumbLinker.NONE, ThumbLinker.TWICE, ThumbLinker.SIGN, ThumbLinker.RANGE, ThumbLinker.KIND,
            ThumbLinker.ALIGN, ThumbLinker.ROOM, ThumbLinker.UNKNOWN, ThumbLinker.FAR};
        for (int k = 0; k < got.length; k++) {
            Check.due("constant " + k, got[k], -1 - k);
        }
    }

    private static void ownState() {
        ThumbLinker one = Check.with("main:", ".global main");
        Check.type(one, "abc");
        ThumbLinker other = new ThumbLinker();
        Check.due("erase() of another", other.erase(), 0);
        Check.due("drop(0) of another", other.drop(0), 0);
    }
}
