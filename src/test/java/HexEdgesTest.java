import java.util.Arrays;

/** 'Terms', HEX: every character of the records of short images, long ones, and those at a record's end. */
public final class HexEdgesTest {
    private static final int CHARACTERS_EACH = 400;

    public static void main(String[] args) {
        lengths();
        sums();
        largeLetters();
        Check.finish();
    }

    private static ThumbLinker image(int length) {
        ThumbLinker x = Check.with("main:", ".global main");
        int left = length - 8;
        for (int m = 0; left > 0; m++) {
            int n = Math.min(left, 512);
            // The last byte of each module is not 0, so that a record's end and sum show it.
            Check.add(x, m, ".space " + (n - 1), ".byte " + (255 - m));
            left -= n;
        }
        Check.linked(x, "an image of " + length, length);
        return x;
    }

    private static int[] imageBytes(int length) {
        int[] bytes = new int[length];
        int[] vectors = {0, 4, 0, 0x20, 9, 0, 0, 0};
        System.arraycopy(vectors, 0, bytes, 0, 8);
        for (int m = 0; 8 + 512 * m < length; m++) {
            bytes[Math.min(length, 8 + 512 * (m + 1)) - 1] = 255 - m;
        }
        return bytes;
    }

    private static String record(int address, int kind, int... bytes) {
        StringBuilder all = new StringBuilder(String.format(":%02X%04X%02X", bytes.length, address, kind));
        int sum = bytes.length + (address >> 8) + (address & 255) + kind;
        for (int each : bytes) {
            all.append(String.format("%02X", each));
            sum += each;
        }
        return all.append(String.format("%02X%c", -sum & 255, 10)).toString();
    }

    private static String records(int[] bytes) {
        StringBuilder all = new StringBuilder(record(0, 4, 0, 0));
        for (int from = 0; from < bytes.length; from += 16) {
            int to = Math.min(from + 16, bytes.length);
            all.append(record(from, 0, Arrays.copyOfRange(bytes, from, to)));
        }
        return all.append(record(0, 1)).toString();
    }

    private static void lengths() {
        Check.sentence("then kind 0 with 16 bytes of THE IMAGE each, the last one with what is left;"
            + " then kind 1, address 0, no bytes");
        for (int length : new int[] {8, 9, 15, 16, 17, 31, 32, 33, 255, 256, 257, 272, 1024, 2032, 2033, 2047, 2048}) {
            String want = records(imageBytes(length));
            // An object answers 512 calls, so each one tells a part.
            for (int from = 0; from < want.length() + 2; from += CHARACTERS_EACH) {
                int to = Math.min(from + CHARACTERS_EACH, want.length() + 2);
                Check.due("hex of " + length + " bytes, from " + from, Check.hexText(image(length), from, to),
                    (want + "  ").substring(from, to));
            }
            Check.due("hex(-1) of " + length, image(length).hex(-1), ' ');
        }
    }

    private static void sums() {
        Check.sentence("and one that makes all of these 0 modulo 256");
        for (int n = -128; n <= 255; n++) {
            ThumbLinker x = Check.with("main: .space 8", ".global main", ".byte " + n);
            Check.linked(x, "an image of 17", 17);
            Check.due("the last byte " + n, Check.hexText(x, 60, 74), record(16, 0, n & 255));
        }
    }

    private static void largeLetters() {
        Check.sentence("hexadecimal digits (large letters)");
        ThumbLinker x = Check.with("main: .word -1", ".global main", ".byte 171", ".byte 205", ".byte 239", ".byte 160");
        Check.linked(x, "letters", 16);
        Check.due("letters", Check.hexText(x, 16, 60), ":1000000000040020" + "09000000" + "FFFFFFFFABCDEFA0C0\n");
    }
}
