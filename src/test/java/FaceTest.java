import java.lang.reflect.Field;
import java.lang.reflect.Method;
import java.lang.reflect.Modifier;
import java.util.TreeSet;

/** 'The public face': exactly the constants, the constructor and the methods that the document shows. */
public final class FaceTest {
    private static final String[] CONSTANTS = {"NONE", "TWICE", "SIGN", "RANGE", "KIND", "ALIGN", "ROOM", "UNKNOWN",
        "FAR"};
    private static final String[] METHODS = {
        "public int ThumbLinker.type(int,int,int,int) throws java.lang.IllegalStateException",
        "public int ThumbLinker.erase()",
        "public int ThumbLinker.add(int) throws java.lang.IllegalArgumentException,java.lang.IllegalStateException",
        "public void ThumbLinker.change(int,int) throws java.lang.IllegalArgumentException",
        "public int ThumbLinker.drop(int) throws java.lang.IllegalArgumentException",
        "public int ThumbLinker.link()",
        "public int ThumbLinker.fault(int) throws java.lang.IllegalArgumentException",
        "public int ThumbLinker.octet(int)",
        "public char ThumbLinker.hex(int)",
        "public int ThumbLinker.address(int) throws java.lang.IllegalArgumentException",
        "public int ThumbLinker.size(int,int) throws java.lang.IllegalArgumentException"};

    public static void main(String[] args) throws IllegalAccessException {
        Check.sentence("public final class ThumbLinker");
        Check.due("the class", Modifier.toString(ThumbLinker.class.getModifiers()), "public final");
        constants();
        constructors();
        methods();
        Check.finish();
    }

    private static void constants() throws IllegalAccessException {
        Check.sentence("public static final int NONE = -1; .. public static final int FAR = -9;");
        TreeSet<String> got = new TreeSet<>();
        for (Field field : ThumbLinker.class.getDeclaredFields()) {
            if (!Modifier.isPrivate(field.getModifiers())) {
                got.add(field.toGenericString() + " = " + field.getInt(null));
            }
        }
        TreeSet<String> want = new TreeSet<>();
        for (int k = 0; k < CONSTANTS.length; k++) {
            want.add("public static final int ThumbLinker." + CONSTANTS[k] + " = " + (-1 - k));
        }
        Check.due("the constants", got.toString(), want.toString());
    }

    private static void constructors() {
        Check.sentence("public ThumbLinker();");
        Check.due("how many constructors", ThumbLinker.class.getDeclaredConstructors().length, 1);
        Check.due("the constructor", ThumbLinker.class.getDeclaredConstructors()[0].toGenericString(),
            "public ThumbLinker()");
    }

    private static void methods() {
        Check.sentence("public int type(int a, int b, int c, int d) .. public int size(int module, int what)");
        TreeSet<String> got = new TreeSet<>();
        for (Method method : ThumbLinker.class.getDeclaredMethods()) {
            if (!Modifier.isPrivate(method.getModifiers()) && !method.isSynthetic()) {
                got.add(method.toGenericString());
            }
        }
        TreeSet<String> want = new TreeSet<>();
        for (String method : METHODS) {
            want.add(method);
        }
        Check.due("the methods", got.toString(), want.toString());
    }
}
