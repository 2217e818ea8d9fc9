/** Whatever is called with whatever, only what the document names is thrown, and a fault changes nothing. */
public final class AnyCallsTest {
    private static final String[] PIECES = {"main", ":", "x", "y1", ".global ", ".text", ".data", ".bss", ".word ",
        ".byte ", ".space ", ".align", "nop", "movs ", "adds ", "subs ", "cmp ", "lsls ", "ldr ", "strb ", "push ",
        "pop ", "b ", "bl ", "beq ", "bx ", "r0", "r7", "r8", "lr", "pc", ",", "#", "-", "+", "[", "]", "{", "}", "0",
        "1", "4", "255", "512", "9999", "12345", " ", "  ", ".", "?", "\u00ff"};

    private static long seed = 1;

    public static void main(String[] args) {
        for (int run = 0; run < 3000; run++) {
            ThumbLinker x = Check.with("main: nop", ".global main");
            // A round makes eleven calls at most, and an object answers 512.
            for (int k = 0; k < 46; k++) {
                int call = k;
                int before = x.octet(8);
                int length = length(x);
                try {
                    any(x);
                } catch (IllegalArgumentException | IllegalStateException e) {
                    Check.due("run " + run + ", call " + call + ": length after a throw", length(x), length);
                    Check.due("run " + run + ", call " + call + ": octet after a throw", x.octet(8), before);
                }
            }
        }
        Check.finish();
    }

    private static int length(ThumbLinker x) {
        return x.type(0, 0, 0, 0);
    }

    private static int below(int limit) {
        seed = seed * 6364136223846793005L + 1442695040888963407L;
        return (int) ((seed >>> 33) % limit);
    }

    private static int number() {
        switch (below(8)) {
            case 0:
                return -1;
            case 1:
                return Integer.MIN_VALUE;
            case 2:
                return Integer.MAX_VALUE;
            case 3:
                return below(3000);
            default:
                return below(5);
        }
    }

    private static void any(ThumbLinker x) {
        switch (below(40)) {
            case 0:
                x.type(below(Integer.MAX_VALUE), below(Integer.MAX_VALUE), 0, number());
                break;
            case 1:
                x.erase();
                break;
            case 2:
                x.change(number(), number());
                break;
            case 3:
                x.drop(number());
                break;
            case 4:
                linkTwice(x);
                break;
            case 5:
                x.fault(number());
                break;
            case 6:
                x.octet(number());
                x.hex(number());
                break;
            case 7:
                x.address(number());
                break;
            case 8:
                x.size(number(), number());
                break;
            case 9:
            case 10:
            case 11:
            case 12:
            case 13:
            case 14:
                x.add(number());
                break;
            default:
                Check.type(x, PIECES[below(PIECES.length)]);
                break;
        }
    }

    private static void linkTwice(ThumbLinker x) {
        int first = x.link();
        int module = x.fault(0);
        int line = x.fault(1);
        int place = x.fault(2);
        Check.due("link() again", x.link(), first);
        Check.due("fault(0) again", x.fault(0), module);
        Check.due("fault(1) again", x.fault(1), line);
        Check.due("fault(2) again", x.fault(2), place);
        Check.due("octet behind the image", first > 0 ? x.octet(first) : -1, -1);
    }
}
