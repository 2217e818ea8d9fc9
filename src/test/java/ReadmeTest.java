import java.io.IOException;
import java.nio.file.Files;
import java.nio.file.Path;

/** README.md: its example stands here to the letter, and answers what is told there. */
public final class ReadmeTest {
    public static void main(String[] args) throws IOException {
        String readme = Files.readString(Path.of("README.md"));
        String code = Files.readString(Path.of("src/test/java/ReadmeTest.java")).replace("\n    ", "\n");
        String example = between(readme, "```java\n", "\n```");
        Check.due("the example stands in this test (1 if it does)", code.contains(example) ? 1 : 0, 1);
        String told = between(readme, "It answers:\n\n```text\n", "```");
        Check.due("the records", records(new ThumbLinker()), told);
        Check.finish();
    }

    static String between(String text, String before, String after) {
        int from = text.indexOf(before) + before.length();
        return text.substring(from, text.indexOf(after, from));
    }

    static void line(ThumbLinker x, int module, String text) {
        for (int k = 0; k < text.length(); k += 16) {
            x.type(four(text, k), four(text, k + 4), four(text, k + 8), four(text, k + 12));
        }
        x.add(module);
    }

    static int four(String text, int from) {
        int value = 0;
        for (int k = from; k < from + 4; k++) {
            value = value << 8 | (k < text.length() ? text.charAt(k) : 0);
        }
        return value;
    }

    static String records(ThumbLinker x) {
        line(x, 0, ".global main");
        line(x, 0, "main: movs r0,#7");
        line(x, 0, "loop: bl twice");
        line(x, 0, "subs r0,#8");
        line(x, 0, "bne loop");
        line(x, 1, ".global twice");
        line(x, 1, "twice: adds r0,r0,r0");
        line(x, 1, "bx lr");
        if (x.link() < 0) {
            return "module " + x.fault(0) + ", line " + x.fault(1) + ", place " + x.fault(2);
        }
        StringBuilder all = new StringBuilder();
        for (int k = 0; x.hex(k) != ' '; k++) {
            all.append(x.hex(k));
        }
        return all.toString();
    }
}
