import java.lang.reflect.InvocationTargetException;
import java.lang.reflect.Method;

/** Promises 16 to 24 and 31: stage, argument, run, result, error, steps, field, element, arrayLength, strays. */
public final class RunTest {
    private static final int[] INTS = {0, 1, -1, 2, 3, 5, 7, 31, 32, 33, 63, 64, 100, 127, 128, 255, 256, 32767,
        32768, 65535, 65536, -2, -128, -129, -32768, -32769, 0x12345678, Integer.MAX_VALUE, Integer.MIN_VALUE};
    private static final long[] LONGS = {0, 1, -1, 2, 3, 63, 64, 255, 1L << 31, (1L << 31) - 1, 1L << 32,
        -(1L << 31), -(1L << 31) - 1, 0x123456789abcdefL, Long.MAX_VALUE, Long.MIN_VALUE, -7, 10};

    public static void main(String[] args) throws Exception {
        refusals();
        stages();
        values();
        asTheJavaMachine();
        jumps();
        switches();
        arrays();
        errors();
        handlers();
        calls();
        outcomes();
        limits();
        Kit.finish("RunTest");
    }

    private static void run(CodeFoundry x, int m, long outcome, long result, long... arguments) {
        for (long v : arguments) {
            x.argument(v);
        }
        Kit.due("run(" + m + ", 50000)", x.run(m, 50000), outcome);
        Kit.due("result()", x.result(), result);
        Kit.due("strays()", x.strays(), 0);
    }

    private static void fails(CodeFoundry x, int m, int error, int steps, long... arguments) {
        run(x, m, 1, 0, arguments);
        Kit.due("error()", x.error(), error);
        Kit.due("steps()", x.steps(), steps);
    }

    private static void refusals() {
        CodeFoundry x = new CodeFoundry();
        for (int n = 1; n <= 8; n++) {
            Kit.due("argument", x.argument(n), n);
        }
        Kit.due("argument 9", x.argument(9), -1);
        Kit.due("nothing on the stage", x.run(0, 10), -1);
        Kit.due("used up", x.argument(1), 1);
        Kit.Klass k = new Kit.Klass().method("m", "(I[IJ)I", 2, 4, "26; 172").method("n", "()V", 0, 0, "177");
        Kit.due("file()", Kit.file(x, k.bytes()), 0);
        Kit.due("not checked", x.stage(0), false);
        Kit.due("verify(0)", x.verify(0), 0);
        Kit.due("stage(0)", x.stage(0), true);
        Kit.due("stage(1)", x.stage(1), false);
        Kit.due("stage(-1)", x.stage(-1), false);
        Kit.due("the argument is still there", x.run(1, 10), -2);
        Kit.due("used up", x.run(1, 10), 0);
        Kit.due("no such method", x.run(2, 10), -1);
        Kit.due("no such method", x.run(-1, 10), -1);
        Kit.due("too few", x.run(0, 10), -2);
        x.argument(1);
        x.argument(1);
        x.argument(1);
        Kit.due("no such array", x.run(0, 10), -2);
        x.argument(1);
        x.argument(1L << 32);
        x.argument(1);
        Kit.due("a long is no array", x.run(0, 10), -2);
        x.argument(1);
        x.argument(-1);
        x.argument(1);
        Kit.due("below 0", x.run(0, 10), -2);
        Kit.due("fuel", x.run(1, -1), -3);
        Kit.due("fuel", x.run(1, 50001), -3);
        Kit.due("fuel", x.run(1, 50000), 0);
        Kit.due("-1 before -3", x.run(2, -1), -1);
        Kit.due("-2 before -3", x.run(0, -1), -2);
        x.argument(5 + (7L << 32));
        x.argument(0);
        x.argument(1);
        Kit.due("run", x.run(0, 10), 0);
        Kit.due("the lowest 32 bits", x.result(), 5);
        Kit.due("steps()", x.steps(), 2);
        x.argument(0xffffffffL);
        x.argument(0);
        x.argument(1);
        Kit.due("run", x.run(0, 10), 0);
        Kit.due("with its sign", x.result(), -1);
        Kit.due("refused", x.run(0, 10), -2);
        Kit.due("the latest run's result", x.result(), -1);
        Kit.due("the latest run's steps", x.steps(), 2);
    }

    private static void stages() {
        Kit.Klass k = new Kit.Klass().field("i", "I").field("l", "J").field("a", "[I")
                .method("set", "(IJ[I)V", 2, 4, "26; 179 field:i:I; 31; 179 field:l:J; 45; 179 field:a:[I; 177")
                .method("make", "(I)[I", 2, 1, "26; 188 10; 176")
                .method("get", "()J", 4, 0, "178 field:i:I; 133; 178 field:l:J; 97; 173")
                .method("arr", "()[I", 1, 0, "178 field:a:[I; 176");
        CodeFoundry x = Kit.staged(k);
        Kit.due("field(0)", x.field(0), 0);
        Kit.due("field(3)", x.field(3), 0);
        run(x, 3, 0, 0);
        run(x, 1, 0, 1, 3);
        run(x, 1, 0, 2, 0);
        Kit.due("arrayLength(1)", x.arrayLength(1), 3);
        Kit.due("arrayLength(2)", x.arrayLength(2), 0);
        Kit.due("arrayLength(3)", x.arrayLength(3), -1);
        Kit.due("arrayLength(0)", x.arrayLength(0), -1);
        Kit.due("arrayLength(-1)", x.arrayLength(-1), -1);
        run(x, 0, 0, 0, -5, 1L << 40, 1);
        Kit.due("field(0)", x.field(0), -5);
        Kit.due("field(1)", x.field(1), 1L << 40);
        Kit.due("field(2)", x.field(2), 1);
        Kit.due("field(-1)", x.field(-1), 0);
        run(x, 2, 0, (1L << 40) - 5);
        run(x, 3, 0, 1);
        Kit.due("stage(5)", x.stage(5), false);
        Kit.due("all stays", x.field(0), -5);
        Kit.due("stage(0)", x.stage(0), true);
        Kit.due("field(0)", x.field(0), 0);
        Kit.due("field(2)", x.field(2), 0);
        Kit.due("arrayLength(1)", x.arrayLength(1), -1);
        Kit.due("the latest run is still told", x.result(), 1);
        run(x, 1, 0, 1, 9);
    }

    private static void values() {
        CodeFoundry x = Kit.staged(new Kit.Klass()
                .method("a", "()I", 1, 0, "0; 2; 172").method("b", "()J", 2, 0, "10; 173")
                .method("c", "()I", 1, 0, "16 -100; 172").method("d", "()I", 1, 0, "17 -30000; 172")
                .method("e", "()I", 1, 0, "19 int:-2147483648; 172")
                .method("f", "()J", 2, 0, "20 long:-9223372036854775808; 173")
                .method("g", "()V", 2, 0, "4; 177").method("h", "()[I", 2, 0, "1; 176")
                .method("i", "()I", 3, 2, "4; 5; 95; 100; 172").method("j", "()I", 4, 2, "5; 6; 90; 104; 96; 172")
                .method("k", "()I", 4, 2, "8; 6; 92; 96; 96; 96; 172")
                .method("l", "()J", 6, 2, "20 long:5; 92; 105; 173")
                .method("m", "(I)I", 2, 1, "132 0 -3; 196 132 0 1000; 26; 172")
                .method("n", "(IJ)J", 2, 4, "31; 55 2; 22 2; 173")
                .method("o", "()I", 3, 0, "4; 9; 88; 172").method("p", "()I", 3, 0, "4; 5; 6; 88; 172")
                .method("q", "()I", 3, 0, "7; 89; 87; 172"));
        long[] want = {-1, 1, -100, -30000, Integer.MIN_VALUE, Long.MIN_VALUE, 0, 0, 1, 9, 16, 25};
        for (int m = 0; m < want.length; m++) {
            run(x, m, 0, want[m]);
        }
        run(x, 12, 0, Integer.MIN_VALUE + 996, Integer.MAX_VALUE);
        run(x, 13, 0, 1L << 50, 3, 1L << 50);
        run(x, 14, 0, 1);
        run(x, 15, 0, 1);
        run(x, 16, 0, 4);
    }

    /** Every operator on many values, beside the Java machine itself on the very same bytes. */
    private static void asTheJavaMachine() throws Exception {
        Kit.Klass[] klasses = {new Kit.Klass("A", "java/lang/Object"), new Kit.Klass("B", "java/lang/Object"),
            new Kit.Klass("C", "java/lang/Object")};
        for (int op : new int[] {96, 100, 104, 108, 112, 120, 122, 124, 126, 128, 130}) {
            klasses[0].method("m" + op, "(II)I", 2, 2, "26; 27; " + op + "; 172");
        }
        for (int op : new int[] {97, 101, 105, 109, 113, 127, 129, 131, 148}) {
            klasses[1].method("m" + op, op == 148 ? "(JJ)I" : "(JJ)J", 4, 4,
                    "30; 32; " + op + (op == 148 ? "; 172" : "; 173"));
        }
        for (int op : new int[] {121, 123, 125}) {
            klasses[1].method("m" + op, "(JI)J", 3, 3, "30; 28; " + op + "; 173");
        }
        for (int op : new int[] {116, 145, 146, 147}) {
            klasses[2].method("m" + op, "(I)I", 1, 1, "26; " + op + "; 172");
        }
        klasses[2].method("m117", "(J)J", 2, 2, "30; 117; 173").method("m136", "(J)I", 2, 2, "30; 136; 172")
                .method("m133", "(I)J", 2, 2, "26; 133; 173");
        for (int op = 159; op <= 164; op++) {
            klasses[0].method("m" + op, "(II)I", 2, 2, "26; 27; " + op + " @a; 3; 172; a: 4; 172");
        }
        for (int op = 153; op <= 158; op++) {
            klasses[2].method("m" + op, "(I)I", 2, 2, "26; " + op + " @a; 3; 172; a: 4; 172");
        }
        for (Kit.Klass k : klasses) {
            compare(k);
        }
    }

    private static final class Loader extends ClassLoader {
        Class<?> define(byte[] b) {
            return defineClass(null, b, 0, b.length);
        }
    }

    private static void compare(Kit.Klass k) throws Exception {
        byte[] b = k.bytes();
        Class<?> java = new Loader().define(b);
        for (Method method : java.getDeclaredMethods()) {
            CodeFoundry x = Kit.staged(k);
            int number = numberOf(b, x, method.getName());
            Class<?>[] types = method.getParameterTypes();
            int calls = 60;
            for (int i = 0; i < LONGS.length + INTS.length && calls < 480; i++) {
                for (int j = 0; j < (types.length > 1 ? 4 : 1) && calls < 480; j++) {
                    Object first = pick(types[0], i);
                    Object second = types.length > 1 ? pick(types[1], i * 5 + j * 3) : null;
                    Object[] values = types.length > 1 ? new Object[] {first, second} : new Object[] {first};
                    for (Object v : values) {
                        x.argument(((Number) v).longValue());
                    }
                    int outcome = x.run(number, 100);
                    calls += 5;
                    String what = method.getName() + " of " + first + " and " + second;
                    try {
                        long want = ((Number) method.invoke(null, values)).longValue();
                        Kit.due(what + ": outcome", outcome, 0);
                        Kit.due(what, x.result(), want);
                    } catch (InvocationTargetException e) {
                        Kit.due(what + ": outcome", outcome, 1);
                        Kit.due(what + ": error", x.error(), 0);
                    }
                }
            }
        }
    }

    private static Object pick(Class<?> type, int i) {
        if (type == int.class) {
            return INTS[i % INTS.length];
        }
        return LONGS[i % LONGS.length];
    }

    /** Methods are in the order of the file: found by the places of their names in its bytes. */
    private static int numberOf(byte[] b, CodeFoundry x, String name) {
        String all = new String(b, java.nio.charset.StandardCharsets.ISO_8859_1);
        int n = 0;
        for (int m = 0; m < 256; m++) {
            String other = "m" + m;
            int place = all.indexOf("\0" + (char) other.length() + other);
            if (place >= 0 && place < all.indexOf("\0" + (char) name.length() + name)) {
                n++;
            }
        }
        return n;
    }

    private static void jumps() {
        CodeFoundry x = Kit.staged(new Kit.Klass()
                .method("same", "([I[I)I", 2, 2, "42; 43; 165 @a; 3; 172; a: 4; 172")
                .method("other", "([I[I)I", 2, 2, "42; 43; 166 @a; 3; 172; a: 4; 172")
                .method("null", "([I)I", 2, 2, "42; 198 @a; 3; 172; a: 4; 172")
                .method("not", "([I)I", 2, 2, "42; 199 @a; 3; 172; a: 4; 172")
                .method("make", "()[I", 1, 0, "3; 188 10; 176")
                .method("loop", "(I)I", 2, 2, "3; 60; a: 26; 158 @b; 27; 26; 96; 60; 132 0 -1; 200 @a; b: 27; 172"));
        run(x, 4, 0, 1);
        run(x, 4, 0, 2);
        run(x, 0, 0, 1, 1, 1);
        run(x, 0, 0, 0, 1, 2);
        run(x, 0, 0, 1, 0, 0);
        run(x, 0, 0, 0, 0, 2);
        run(x, 1, 0, 0, 2, 2);
        run(x, 1, 0, 1, 2, 0);
        run(x, 2, 0, 1, 0);
        run(x, 2, 0, 0, 2);
        run(x, 3, 0, 0, 0);
        run(x, 3, 0, 1, 1);
        run(x, 5, 0, 5050, 100);
        Kit.due("steps()", x.steps(), 2 + 100 * 8 + 2 + 2);
    }

    private static void switches() {
        CodeFoundry x = Kit.staged(new Kit.Klass()
                .method("table", "(I)I", 1, 1, "26; 170 @d -1 @a @b @c; a: 4; 172; b: 5; 172; c: 6; 172; d: 3; 172")
                .method("pairs", "(I)I", 1, 1,
                        "26; 171 @d -2147483648 @a 0 @b 2147483647 @c; a: 4; 172; b: 5; 172; c: 6; 172; d: 3; 172")
                .method("none", "(I)I", 1, 1, "26; 171 @d; d: 3; 172")
                .method("high", "(I)I", 1, 1, "26; 170 @d 2147483646 @a @b; a: 4; 172; b: 5; 172; d: 3; 172"));
        int[] table = {-2, 0, -1, 1, 0, 2, 1, 3, 2, 0, Integer.MIN_VALUE, 0, Integer.MAX_VALUE, 0};
        for (int i = 0; i < table.length; i += 2) {
            run(x, 0, 0, table[i + 1], table[i]);
        }
        int[] pairs = {Integer.MIN_VALUE, 1, 0, 2, Integer.MAX_VALUE, 3, 1, 0, -1, 0};
        for (int i = 0; i < pairs.length; i += 2) {
            run(x, 1, 0, pairs[i + 1], pairs[i]);
        }
        run(x, 2, 0, 0, 5);
        run(x, 3, 0, 1, Integer.MAX_VALUE - 1);
        run(x, 3, 0, 2, Integer.MAX_VALUE);
        run(x, 3, 0, 0, Integer.MIN_VALUE);
    }

    private static void arrays() {
        CodeFoundry x = Kit.staged(new Kit.Klass()
                .method("make", "(I)[I", 1, 1, "26; 188 10; 176")
                .method("put", "([III)V", 3, 3, "42; 27; 28; 79; 177")
                .method("get", "([II)I", 2, 2, "42; 27; 46; 172")
                .method("length", "([I)I", 1, 1, "42; 190; 172"));
        run(x, 0, 0, 1, 3);
        run(x, 0, 0, 2, 2);
        run(x, 1, 0, 0, 1, 2, -9);
        run(x, 1, 0, 0, 2, 0, 8);
        run(x, 2, 0, -9, 1, 2);
        run(x, 2, 0, 0, 1, 0);
        run(x, 3, 0, 2, 2);
        Kit.due("element(1, 2)", x.element(1, 2), -9);
        Kit.due("element(1, 3)", x.element(1, 3), 0);
        Kit.due("element(1, -1)", x.element(1, -1), 0);
        Kit.due("element(2, 0)", x.element(2, 0), 8);
        Kit.due("element(0, 0)", x.element(0, 0), 0);
        Kit.due("element(3, 0)", x.element(3, 0), 0);
        fails(x, 2, 2, 3, 1, 3);
        fails(x, 2, 2, 3, 1, -1);
        fails(x, 1, 2, 4, 1, 3, 5);
        fails(x, 2, 1, 3, 0, 99);
        fails(x, 1, 1, 4, 0, 0, 5);
        fails(x, 3, 1, 2, 0);
        fails(x, 0, 3, 2, -1);
        Kit.due("element(2, 0)", x.element(2, 0), 8);
        // an array made anew is 0 everywhere, though the room was used before
        Kit.due("stage(0)", x.stage(0), true);
        run(x, 0, 0, 1, 3);
        Kit.due("element(1, 2)", x.element(1, 2), 0);
    }

    private static void errors() {
        CodeFoundry x = Kit.staged(new Kit.Klass()
                .method("div", "(II)I", 2, 2, "26; 27; 108; 172").method("rem", "(II)I", 2, 2, "26; 27; 112; 172")
                .method("ldiv", "(JJ)J", 4, 4, "30; 32; 109; 173").method("lrem", "(JJ)J", 4, 4, "30; 32; 113; 173")
                .method("throw", "()V", 1, 0, "1; 191").method("ok", "()I", 1, 0, "4; 172"));
        fails(x, 0, 0, 3, 1, 0);
        fails(x, 1, 0, 3, 1, 0);
        fails(x, 2, 0, 3, 1, 0);
        fails(x, 3, 0, 3, 1, 0);
        fails(x, 4, 1, 2);
        run(x, 0, 0, Integer.MIN_VALUE, Integer.MIN_VALUE, -1);
        Kit.due("error()", x.error(), -1);
        run(x, 1, 0, 0, Integer.MIN_VALUE, -1);
        run(x, 2, 0, Long.MIN_VALUE, Long.MIN_VALUE, -1);
        run(x, 3, 0, 0, Long.MIN_VALUE, -1);
        fails(x, 4, 1, 2);
        run(x, 5, 0, 1);
        Kit.due("error()", x.error(), -1);
    }

    private static void handlers() {
        CodeFoundry x = Kit.staged(new Kit.Klass()
                .method("first", "(I)I", 3, 2, "a: 8; 26; 108; b: 172; h: 87; 16 11; 172; g: 87; 16 12; 172; e:",
                        "a b h DivideError", "a e g 0")
                .method("other", "(I)I", 3, 2, "a: 8; 26; 108; b: 172; h: 87; 16 11; 172; g: 87; 16 12; 172; e:",
                        "a b h NullError", "a b g 0")
                .method("none", "(I)I", 3, 2, "a: 8; b: 26; 108; c: 172; h: 87; 16 11; 172; e:", "a b h 0",
                        "c e h 0")
                .method("again", "(I)I", 3, 2, "a: 8; 26; 108; b: 172; h: 191; e:", "a b h DivideError")
                .method("twice", "(I)I", 3, 2, "a: 8; 26; 108; b: 172; h: 191; i: 87; 16 9; 172; e:",
                        "a b h DivideError", "h i i DivideError")
                .method("caller", "(I)I", 3, 2, "4; a: 26; 184 call:none:(I)I; b: 96; 172; h: 87; 16 13; 172; e:",
                        "a b h DivideError")
                .method("keeps", "(I)I", 3, 2, "8; 60; a: 132 1 1; 4; 26; 108; 60; b: 27; 172; h: 87; 27; 172; e:",
                        "a b h 0")
                .method("same", "(I)I", 3, 2, "a: 8; 26; 108; b: 172; h: 89; 165 @s; 3; 172; s: 4; 172; e:"
                        .replace("89; 165", "76; 43; 43; 165"), "a b h 0"));
        run(x, 0, 0, 5, 1);
        run(x, 0, 0, 11, 0);
        Kit.due("error()", x.error(), -1);
        Kit.due("steps()", x.steps(), 6);
        run(x, 1, 0, 12, 0);
        fails(x, 2, 0, 3, 0);
        fails(x, 3, 0, 4, 0);
        run(x, 4, 0, 9, 0);
        run(x, 5, 0, 13, 0);
        Kit.due("steps()", x.steps(), 9);
        run(x, 6, 0, 6, 0);
        run(x, 7, 0, 1, 0);
    }

    private static void calls() {
        CodeFoundry x = Kit.staged(new Kit.Klass()
                .method("mix", "(IJ[I)J", 6, 4, "26; 133; 31; 97; 45; 190; 133; 97; 173")
                .method("call", "(I)J", 8, 1, "10; 26; 10; 4; 188 10; 184 call:mix:(IJ[I)J; 97; 173")
                .method("fact", "(I)I", 3, 1, "26; 157 @a; 4; 172; a: 26; 26; 4; 100; 184 call:fact:(I)I; 104; 172")
                .method("nothing", "()V", 0, 0, "177")
                .method("with", "()I", 2, 0, "5; 184 call:nothing:()V; 172")
                .method("array", "()[I", 2, 0, "5; 188 10; 176")
                .method("length", "()I", 2, 0, "184 call:array:()[I; 190; 172"));
        run(x, 1, 0, 1 + 7 + 1 + 1, 7);
        Kit.due("steps()", x.steps(), 17);
        run(x, 2, 0, 3628800, 10);
        run(x, 4, 0, 2);
        Kit.due("steps()", x.steps(), 4);
        run(x, 6, 0, 2);
    }

    private static void outcomes() {
        CodeFoundry x = Kit.staged(new Kit.Klass().field("n", "I")
                .method("deep", "(I)I", 3, 1, "178 field:n:I; 4; 96; 179 field:n:I; 26; 154 @a; 3; 172; "
                        + "a: 26; 4; 100; 184 call:deep:(I)I; 172")
                .method("loop", "()V", 1, 0, "a: 167 @a").method("one", "()V", 1, 0, "177")
                .method("caught", "()V", 1, 0, "a: 184 call:caught:()V; 177; h: 87; 177; e:", "a e h 0")
                .method("fields", "()V", 2, 0, "a: 178 field:n:I; 4; 96; 179 field:n:I; 167 @a"));
        run(x, 0, 0, 0, 59);
        Kit.due("sixty methods", x.field(0), 60);
        run(x, 0, 3, 0, 60);
        Kit.due("sixty more", x.field(0), 120);
        Kit.due("error()", x.error(), -1);
        run(x, 1, 2, 0);
        Kit.due("steps()", x.steps(), 50000);
        run(x, 3, 3, 0);
        Kit.due("steps()", x.steps(), 60);
        Kit.due("run(2, 1)", x.run(2, 1), 0);
        Kit.due("steps()", x.steps(), 1);
        Kit.due("run(2, 0)", x.run(2, 0), 2);
        Kit.due("steps()", x.steps(), 0);
        Kit.due("run(1, 7)", x.run(1, 7), 2);
        Kit.due("steps()", x.steps(), 7);
        Kit.due("stage(0)", x.stage(0), true);
        Kit.due("run(4, 13)", x.run(4, 13), 2);
        Kit.due("what was done stays", x.field(0), 2);
    }

    private static void limits() {
        CodeFoundry x = Kit.staged(new Kit.Klass().field("n", "I")
                .method("make", "(I)[I", 1, 1, "a: 26; 188 10; b: 176; h: 87; 1; 176; e:", "a b h 0")
                .method("many", "()V", 2, 0,
                        "a: 3; 188 10; 87; 178 field:n:I; 4; 96; 179 field:n:I; 167 @a"));
        run(x, 0, 0, 1, 19999);
        run(x, 0, 4, 0, 2);
        Kit.due("error()", x.error(), -1);
        Kit.due("steps()", x.steps(), 2);
        Kit.due("arrayLength(2)", x.arrayLength(2), -1);
        run(x, 0, 0, 2, 1);
        run(x, 0, 4, 0, 1);
        run(x, 0, 0, 3, 0);
        run(x, 0, 4, 0, Integer.MAX_VALUE);
        run(x, 0, 0, 0, -1);
        Kit.due("stage(0)", x.stage(0), true);
        run(x, 1, 4, 0);
        Kit.due("400 arrays", x.field(0), 400);
        Kit.due("arrayLength(400)", x.arrayLength(400), 0);
        Kit.due("arrayLength(401)", x.arrayLength(401), -1);
        Kit.due("steps()", x.steps(), 400 * 8 + 2);
        run(x, 0, 4, 0, 0);
    }
}
