import java.io.ByteArrayOutputStream;
import java.util.Arrays;

/** Promises 14 and 15: write, byteAt. */
public final class WriteTest {
    public static void main(String[] args) {
        answers();
        order();
        forms();
        switches();
        limits();
        wholePool();
        Kit.finish("WriteTest");
    }

    private static void same(String what, byte[] got, byte[] want) {
        Kit.due(what + ": length", got.length, want.length);
        for (int i = 0; i < Math.min(got.length, want.length); i++) {
            if (got[i] != want[i]) {
                Kit.due(what + ": byte " + i, got[i] & 255, want[i] & 255);
                return;
            }
        }
    }

    private static void answers() {
        CodeFoundry x = new CodeFoundry();
        Kit.due("write(0)", x.write(0), -1);
        Kit.due("file()", Kit.file(x, new Kit.Klass().method("m", "()V", 0, 0, "177").bytes()), 0);
        Kit.due("file()", Kit.file(x, new Kit.Klass().method("m", "()V", 0, 0, "87; 177").bytes()), 1);
        Kit.due("file()", Kit.file(x, new Kit.Klass().bytes()), 2);
        Kit.due("not checked", x.write(0), -1);
        Kit.due("verify(0)", x.verify(0), 0);
        Kit.due("verify(1)", x.verify(1), 1);
        Kit.due("verify(2)", x.verify(2), 0);
        Kit.due("with a fault", x.write(1), -1);
        Kit.due("byteAt(0) before", x.byteAt(0), -1);
        int n = x.write(0);
        Kit.due("written", n, 87);
        Kit.due("byteAt(-1)", x.byteAt(-1), -1);
        Kit.due("byteAt(0)", x.byteAt(0), 202);
        Kit.due("byteAt(n - 1)", x.byteAt(n - 1), 0);
        Kit.due("byteAt(n)", x.byteAt(n), -1);
        Kit.due("write(1)", x.write(1), -1);
        Kit.due("stays", x.byteAt(0), 202);
        Kit.due("improve(0, 0)", x.improve(0, 0), 3);
        Kit.due("stays", x.byteAt(n - 1), 0);
        Kit.due("stays", x.byteAt(n), -1);
        // a file without methods has the name of Code too
        Kit.due("write(2)", x.write(2), 10 + 7 + 7 + 3 + 6 + 3 + 8 + 6);
        Kit.due("write(0) again", x.write(0), n);
        Kit.due("byteAt(9)", x.byteAt(9), 8);
        Kit.due("verify(3)", x.verify(3), 0);
        Kit.due("write(3), the same", x.write(3), n);
    }

    /** The pool's order: Code, the classes, then what is needed, each behind what it points to. */
    private static void order() {
        Kit.Klass k = new Kit.Klass("Main", "Top");
        k.longEntry(77);
        k.intEntry(88);
        k.nameEntry("unused");
        k.classEntry("SizeError");
        k.field("x", "J").field("y", "I");
        k.method("m", "()J", 9, 9, "a: 178 field:y:I; 87; 20 long:123456; 88; 19 int:70000; 87; b: 184 call:n:()V; "
                + "178 field:x:J; 173; h: 87; 20 long:123456; 173", "a b h SizeError", "a b h 0", "a b h NullError");
        k.method("n", "()V", 1, 0, "18 int:70001; 87; 177");
        same("order", Kit.written(Kit.checked(k), 0), expected());
        // equal names, and equal classes, once
        Kit.Klass one = new Kit.Klass("Code", "Code").field("Code", "I").method("I", "()V", 0, 0, "177");
        CodeFoundry x = Kit.checked(one);
        Kit.due("write(0)", x.write(0), 10 + 7 + 3 + 4 + 6 + 8 + 2 + 8 + 2 + 8 + 14 + 1 + 4 + 2);
        Kit.due("byteAt(9)", x.byteAt(9), 5);
    }

    private static byte[] expected() {
        ByteArrayOutputStream out = new ByteArrayOutputStream();
        int[] head = {202, 254, 186, 190, 0, 0, 0, 49, 0, 28};
        for (int b : head) {
            out.write(b);
        }
        name(out, "Code");              // 1
        name(out, "Main");              // 2
        bytes(out, 7, 0, 2);            // 3
        name(out, "Top");               // 4
        bytes(out, 7, 0, 4);            // 5
        name(out, "x");                 // 6
        name(out, "J");                 // 7
        name(out, "y");                 // 8
        name(out, "I");                 // 9
        name(out, "m");                 // 10
        name(out, "()J");               // 11
        bytes(out, 12, 0, 8, 0, 9);     // 12
        bytes(out, 9, 0, 3, 0, 12);     // 13
        bytes(out, 5, 0, 0, 0, 0, 0, 1, 226, 64);   // 14, 15
        bytes(out, 3, 0, 1, 17, 112);   // 16
        name(out, "n");                 // 17
        name(out, "()V");               // 18
        bytes(out, 12, 0, 17, 0, 18);   // 19
        bytes(out, 10, 0, 3, 0, 19);    // 20
        bytes(out, 12, 0, 6, 0, 7);     // 21
        bytes(out, 9, 0, 3, 0, 21);     // 22
        name(out, "SizeError");         // 23
        bytes(out, 7, 0, 23);           // 24
        name(out, "NullError");         // 25
        bytes(out, 7, 0, 25);           // 26
        bytes(out, 3, 0, 1, 17, 113);   // 27
        bytes(out, 0, 33, 0, 3, 0, 5, 0, 0, 0, 2);
        bytes(out, 0, 9, 0, 6, 0, 7, 0, 0, 0, 9, 0, 8, 0, 9, 0, 0);
        bytes(out, 0, 2, 0, 9, 0, 10, 0, 11, 0, 1, 0, 1, 0, 0, 0, 12 + 23 + 24);
        bytes(out, 0, 2, 0, 0, 0, 0, 0, 23);
        bytes(out, 178, 0, 13, 87, 20, 0, 14, 88, 18, 16, 87, 184, 0, 20, 178, 0, 22, 173, 87, 20, 0, 14, 173);
        bytes(out, 0, 3, 0, 0, 0, 11, 0, 18, 0, 24, 0, 0, 0, 11, 0, 18, 0, 0, 0, 0, 0, 11, 0, 18, 0, 26, 0, 0);
        bytes(out, 0, 9, 0, 17, 0, 18, 0, 1, 0, 1, 0, 0, 0, 16, 0, 1, 0, 0, 0, 0, 0, 4, 18, 27, 87, 177);
        bytes(out, 0, 0, 0, 0, 0, 0);
        return out.toByteArray();
    }

    private static void name(ByteArrayOutputStream out, String s) {
        bytes(out, 1, 0, s.length());
        for (char c : s.toCharArray()) {
            out.write(c);
        }
    }

    private static void bytes(ByteArrayOutputStream out, int... values) {
        for (int v : values) {
            out.write(v);
        }
    }

    /** The code of the only method of a file, as it is written. */
    private static byte[] code(Kit.Klass k) {
        byte[] b = Kit.written(Kit.checked(k), 0);
        CodeFoundry y = new CodeFoundry();
        Kit.due("written files are files", Kit.file(y, b), 0);
        Kit.due("and without a fault", y.verify(0), 0);
        same("writing is for good", Kit.written(y, 0), b);
        // behind the code: no catches, no attributes, no attributes of the file
        int end = b.length - 6;
        for (int start = end; start > 8; start--) {
            int n = (b[start - 2] & 255) << 8 | b[start - 1] & 255;
            if (n == end - start && b[start - 3] == 0 && b[start - 4] == 0
                    && (b[start - 9] & 255) == end - start + 12) {
                return Arrays.copyOfRange(b, start, end);
            }
        }
        return new byte[0];
    }

    private static void form(String text, int... want) {
        byte[] w = new byte[want.length];
        for (int i = 0; i < w.length; i++) {
            w[i] = (byte) want[i];
        }
        same(text, code(new Kit.Klass().method("m", "()V", 8, 10, text)), w);
    }

    private static void forms() {
        for (int v = -1; v <= 5; v++) {
            form("16 " + v + "; 87; 177", v + 3, 87, 177);
            form("17 " + v + "; 87; 177", v + 3, 87, 177);
            form("19 int:" + v + "; 87; 177", v + 3, 87, 177);
        }
        form("17 6; 87; 177", 16, 6, 87, 177);
        form("17 -2; 87; 177", 16, 254, 87, 177);
        form("18 int:127; 87; 177", 16, 127, 87, 177);
        form("17 -128; 87; 177", 16, 128, 87, 177);
        form("18 int:128; 87; 177", 17, 0, 128, 87, 177);
        form("19 int:-129; 87; 177", 17, 255, 127, 87, 177);
        form("19 int:-32768; 87; 177", 17, 128, 0, 87, 177);
        form("19 int:32768; 87; 177", 18, 8, 87, 177);
        form("20 long:0; 88; 20 long:1; 88; 20 long:2; 88; 20 long:-1; 88; 177",
                9, 88, 10, 88, 20, 0, 8, 88, 20, 0, 10, 88, 177);
        form("4; 54 0; 4; 196 54 3; 4; 54 4; 196 21 0; 87; 21 3; 87; 21 4; 87; 177",
                4, 59, 4, 62, 4, 54, 4, 26, 87, 29, 87, 21, 4, 87, 177);
        form("9; 55 0; 9; 55 3; 9; 196 55 6; 196 22 6; 88; 22 3; 88; 177",
                9, 63, 9, 66, 9, 55, 6, 22, 6, 88, 33, 88, 177);
        form("1; 58 0; 1; 58 3; 1; 196 58 4; 25 0; 87; 25 3; 87; 196 25 4; 87; 177",
                1, 75, 1, 78, 1, 58, 4, 42, 87, 45, 87, 25, 4, 87, 177);
        form("4; 59; 196 132 0 127; 196 132 0 -128; 196 132 0 128; 196 132 0 -129; 177",
                4, 59, 132, 0, 127, 132, 0, 128, 196, 132, 0, 0, 0, 128, 196, 132, 0, 0, 255, 127, 177);
        form("0; 200 @a; a: 167 @b; 0; b: 177", 0, 167, 0, 3, 167, 0, 4, 0, 177);
        form("4; 188 10; 190; 87; 177; 0; 0", 4, 188, 10, 190, 87, 177, 0, 0);
    }

    private static void switches() {
        form("3; 170 @a -1 @a @b; a: 177; b: 0; 177",
                3, 170, 0, 0, 0, 0, 0, 23, 255, 255, 255, 255, 0, 0, 0, 0, 0, 0, 0, 23, 0, 0, 0, 24, 177, 0, 177);
        form("0; 3; 171 @a -1 @a 5 @b; a: 177; b: 0; 177",
                0, 3, 171, 0, 0, 0, 0, 26, 0, 0, 0, 2, 255, 255, 255, 255, 0, 0, 0, 26, 0, 0, 0, 5, 0, 0, 0, 27,
                177, 0, 177);
        form("0; 0; 3; 171 @a; a: 177", 0, 0, 3, 171, 0, 0, 0, 9, 0, 0, 0, 0, 177);
        // shorter forms before a switch change what fills it up
        form("17 3; 171 @a; a: 177", 6, 171, 0, 0, 0, 0, 0, 11, 0, 0, 0, 0, 177);
    }

    private static void limits() {
        CodeFoundry x = Kit.checked(new Kit.Klass()
                .method("a", "(J)V", 9, 9, "177; 4; 4; 4; 55 6; 177")
                .method("b", "()J", 24, 24, "9; 4; 4; 88; 173; 167 @a; a: 0; 177")
                .method("c", "()V", 5, 5, "a: 0; b: 177; h: 87; 177; e:", "a b h 0")
                .method("d", "()V", 5, 5, "177; a: 0; b: 177; h: 87; 177; e:", "a b h 0")
                .method("e", "(IJ)V", 24, 24, "9; 88; 3; 54 5; 132 7 1; 177".replace("132 7 1", "132 5 1")));
        byte[] b = Kit.written(x, 0);
        // each method's limits stand eight bytes before its code: found by the code's length
        int[][] want = {{0, 8, 7}, {4, 0, 10}, {1, 0, 4}, {0, 0, 5}, {2, 6, 9}};
        int at = 0;
        for (int[] w : want) {
            boolean found = false;
            for (; at + 8 < b.length && !found; at++) {
                found = b[at] == 0 && b[at + 1] == w[0] && b[at + 2] == 0 && b[at + 3] == w[1] && b[at + 4] == 0
                        && b[at + 5] == 0 && b[at + 6] == 0 && b[at + 7] == w[2];
            }
            Kit.due("limits " + w[0] + " " + w[1], found, true);
        }
    }

    /** Many entries: below 256 an int takes 18, from there on 19. */
    private static void wholePool() {
        Kit.Klass k = new Kit.Klass();
        StringBuilder code = new StringBuilder();
        for (int i = 0; i < 260; i++) {
            code.append("19 int:").append(100000 + i).append("; 87; ");
        }
        k.method("m", "()V", 1, 0, code + "177");
        CodeFoundry x = Kit.checked(k);
        // 7 entries before the first int: the numbers 8 to 255 are short
        int size = 10 + 7 + 7 + 3 + 6 + 3 + 4 + 6 + 260 * 5 + 8 + 2 + 2 + 8 + 14 + 248 * 3 + 12 * 4 + 1 + 4 + 2;
        Kit.due("write(0)", x.write(0), size);
        Kit.due("size(0, 2)", x.byteAt(8) << 8 | x.byteAt(9), 268);
    }
}
