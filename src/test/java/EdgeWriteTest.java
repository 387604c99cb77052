import java.util.Arrays;

/** The edges of term 8, WRITING, and of promises 14 and 15. */
public final class EdgeWriteTest {
    public static void main(String[] args) {
        answers();
        pushes();
        poolForms();
        locals();
        grows();
        gotos();
        switches();
        equalOnesOnce();
        equalOnesOnceInAnyRoom();
        order();
        leastStack();
        leastLocals();
        leftOut();
        oneBehindTheOther();
        secondNumbers();
        fullPool();
        Kit.finish("EdgeWriteTest");
    }

    /** Promises 14 and 15: "-1 if it was not"; "Byte i of what was written last; -1 if there is none". */
    private static void answers() {
        CodeFoundry x = new CodeFoundry();
        int[] wrong = {-1, 0, 1, 12, Integer.MIN_VALUE, Integer.MAX_VALUE};
        for (int f : wrong) {
            Kit.due("write(" + f + ")", x.write(f), -1);
            Kit.due("byteAt(" + f + ")", x.byteAt(f), -1);
        }
        Kit.due("file()", Kit.file(x, new Kit.Klass().method("m", "()V", 0, 0, "177").bytes()), 0);
        Kit.due("file()", Kit.file(x, new Kit.Klass().method("m", "()V", 0, 0, "87; 177").bytes()), 1);
        Kit.due("file()", Kit.file(x, new Kit.Klass("Longer", "Names").method("m", "()V", 0, 0, "0; 177").bytes()), 2);
        Kit.due("not checked", x.write(0), -1);
        Kit.due("verify(1)", x.verify(1), 1);
        Kit.due("with a fault", x.write(1), -1);
        Kit.due("nothing was written", x.byteAt(0), -1);
        Kit.due("verify(0)", x.verify(0), 0);
        Kit.due("verify(2)", x.verify(2), 0);
        int n = x.write(0);
        Kit.due("byteAt(n - 1)", x.byteAt(n - 1), 0);
        Kit.due("byteAt(n)", x.byteAt(n), -1);
        Kit.due("byteAt(-1)", x.byteAt(-1), -1);
        Kit.due("least", x.byteAt(Integer.MIN_VALUE), -1);
        Kit.due("greatest", x.byteAt(Integer.MAX_VALUE), -1);
        int[] head = {202, 254, 186, 190, 0, 0, 0, 49, 0, 8};
        for (int i = 0; i < head.length; i++) {
            Kit.due("byteAt(" + i + ")", x.byteAt(i), head[i]);
        }
        // what is written stays till something else is written, whatever is asked in between
        byte[] first = Kit.written(x, 0);
        Kit.due("write(1)", x.write(1), -1);
        Kit.due("write(9)", x.write(9), -1);
        Kit.due("improve", x.improve(2, 0), 3);
        Kit.due("count", x.count(2), 4);
        Kit.due("file()", x.file(), -1);
        for (int i = 0; i < n; i++) {
            Kit.due("byte " + i, x.byteAt(i), first[i] & 255);
        }
        Kit.due("byteAt(n)", x.byteAt(n), -1);
        int longer = x.write(2);
        Kit.due("longer", longer, n + 2 + 2 + 1);
        Kit.due("byteAt(longer - 1)", x.byteAt(longer - 1), 0);
        Kit.due("back to the first", x.write(0), n);
        Kit.due("byteAt(n)", x.byteAt(n), -1);
        Kit.due("byte for byte", Arrays.equals(Kit.written(x, 0), first), true);
        // writing what was written gives the same
        CodeFoundry y = new CodeFoundry();
        Kit.due("file()", Kit.file(y, first), 0);
        Kit.due("verify(0)", y.verify(0), 0);
        Kit.due("the same", Arrays.equals(Kit.written(y, 0), first), true);
    }

    /** The code of the only method, which has no catches, as it is written. */
    private static int[] code(Kit.Klass k) {
        byte[] b = Kit.written(Kit.checked(k), 0);
        CodeFoundry y = new CodeFoundry();
        Kit.due("written files are files", Kit.file(y, b), 0);
        Kit.due("and without a fault", y.verify(0), 0);
        Kit.due("and are written so", Arrays.equals(Kit.written(y, 0), b), true);
        byte[] all = Kit.codeOf(b, 0);
        int size = u2(all, 6);
        int[] code = new int[size];
        for (int i = 0; i < size; i++) {
            code[i] = all[8 + i] & 255;
        }
        return code;
    }

    private static int u2(byte[] b, int at) {
        return Kit.u2(b, at);
    }

    private static void form(String text, int... want) {
        int[] got = code(new Kit.Klass().method("m", "()V", 8, 24, text));
        Kit.due(text + ": " + Arrays.toString(got), Arrays.equals(got, want), true);
    }

    /** "Shortest forms: pushes 2 .. 10, 16, 17, else the pool's". */
    private static void pushes() {
        int[] values = {Integer.MIN_VALUE, -32769, -32768, -32767, -129, -128, -127, -2, -1, 0, 1, 2, 3, 4, 5, 6, 7, 126,
            127, 128, 129, 255, 256, 32766, 32767, 32768, 65535, 65536, Integer.MAX_VALUE};
        for (int v : values) {
            for (String raw : new String[] {"18 int:" + v, "19 int:" + v}) {
                String text = raw + "; 87; 177";
                if (v >= -1 && v <= 5) {
                    form(text, v + 3, 87, 177);
                } else if (v >= -128 && v <= 127) {
                    form(text, 16, v & 255, 87, 177);
                } else if (v >= -32768 && v <= 32767) {
                    form(text, 17, v >> 8 & 255, v & 255, 87, 177);
                } else {
                    form(text, 18, 8, 87, 177);
                }
            }
        }
        for (int v = -128; v <= 127; v += 5) {
            form("17 " + v + "; 87; 177", code(new Kit.Klass().method("m", "()V", 1, 0, "16 " + v + "; 87; 177")));
        }
        form("9; 88; 177", 9, 88, 177);
        form("20 long:0; 88; 177", 9, 88, 177);
        form("20 long:1; 88; 177", 10, 88, 177);
        for (long v : new long[] {-1, 2, 5, 127, 4294967296L, Long.MIN_VALUE, Long.MAX_VALUE}) {
            form("20 long:" + v + "; 88; 177", 20, 0, 8, 88, 177);
        }
        form("1; 87; 177", 1, 87, 177);
    }

    /** "(18 if the number is below 256)". */
    private static void poolForms() {
        // 7 numbers stand before the first int: int number k of the code has the number 8 + k
        for (int ints = 247; ints <= 250; ints++) {
            StringBuilder text = new StringBuilder();
            for (int i = 0; i < ints; i++) {
                text.append("19 int:").append(100000 + i).append("; 87; ");
            }
            int[] got = code(new Kit.Klass().method("m", "()V", 1, 0, text + "177"));
            int n = 0;
            for (int i = 0; i < ints; i++) {
                int number = 8 + i;
                Kit.due("push " + number, got[n], number < 256 ? 18 : 19);
                Kit.due("number " + number, number < 256 ? got[n + 1] : got[n + 1] << 8 | got[n + 2], number);
                n += number < 256 ? 3 : 4;
            }
            Kit.due("return", got[n], 177);
        }
        // longs have two numbers: an int behind 124 of them has the number 256
        for (int longs : new int[] {123, 124, 125}) {
            StringBuilder text = new StringBuilder();
            for (int i = 0; i < longs; i++) {
                text.append("20 long:").append(100000 + i).append("; 88; ");
            }
            int[] got = code(new Kit.Klass().method("m", "()V", 2, 0, text + "19 int:70000; 87; 177"));
            int number = 8 + 2 * longs;
            Kit.due("push", got[4 * longs], number < 256 ? 18 : 19);
            Kit.due("number", got[4 * longs + (number < 256 ? 1 : 2)], number & 255);
            Kit.due("the last long", got[4 * longs - 3] << 8 | got[4 * longs - 2], number - 2);
        }
    }

    /** "loads and stores by 0 .. 3, else one byte". */
    private static void locals() {
        int[][] ops = {{54, 21, 59, 26, 4, 87}, {55, 22, 63, 30, 9, 88}, {58, 25, 75, 42, 1, 87}};
        for (int[] o : ops) {
            for (int k = 0; k < (o[0] == 55 ? 23 : 24); k++) {
                String plain = o[4] + "; " + o[0] + " " + k + "; " + o[1] + " " + k + "; " + o[5] + "; 177";
                String wide = o[4] + "; 196 " + o[0] + " " + k + "; 196 " + o[1] + " " + k + "; " + o[5] + "; 177";
                for (String text : new String[] {plain, wide}) {
                    if (k < 4) {
                        form(text, o[4], o[2] + k, o[3] + k, o[5], 177);
                    } else {
                        form(text, o[4], o[0], k, o[1], k, o[5], 177);
                    }
                }
            }
        }
    }

    private static void grows() {
        for (int s : new int[] {-32768, -129, -128, -127, -1, 0, 1, 126, 127, 128, 255, 256, 32767}) {
            for (int k : new int[] {0, 3, 4, 23}) {
                String text = "4; 54 " + k + "; 196 132 " + k + " " + s + "; 177";
                int[] store = k < 4 ? new int[] {4, 59 + k} : new int[] {4, 54, k};
                int[] grow = s >= -128 && s <= 127 ? new int[] {132, k, s & 255, 177}
                        : new int[] {196, 132, 0, k, s >> 8 & 255, s & 255, 177};
                int[] want = Arrays.copyOf(store, store.length + grow.length);
                System.arraycopy(grow, 0, want, store.length, grow.length);
                form(text, want);
            }
        }
    }

    /** "gotos 167": also the far ones, and over what gets shorter. */
    private static void gotos() {
        form("200 @a; 0; a: 177", 167, 0, 4, 0, 177);
        form("a: 0; 200 @a", 0, 167, 255, 255);
        form("a: 200 @a", 167, 0, 0);
        form("200 @a; 17 3; 87; a: 177", 167, 0, 5, 6, 87, 177);
        int n = 1193;
        int[] got = code(new Kit.Klass().method("m", "()V", 0, 0, "200 @e; " + "0; ".repeat(n) + "e: 177"));
        Kit.due("far", got[1] << 8 | got[2], n + 3);
        got = code(new Kit.Klass().method("m", "()V", 0, 0, "a: " + "0; ".repeat(n) + "200 @a"));
        Kit.due("far back", (short) (got[n + 1] << 8 | got[n + 2]), -n);
    }

    /** "switches with 0 bytes between": as many as are wanted where it stands. */
    private static void switches() {
        for (int n = 0; n < 8; n++) {
            int fill = 3 - (n + 1) % 4;
            int[] table = new int[n + 1 + 1 + fill + 16 + 1];
            Arrays.fill(table, 0);
            table[n] = 3;
            table[n + 1] = 170;
            int at = n + 2 + fill;
            int offset = fill + 17;
            table[at + 3] = offset;
            table[at + 7] = 5;
            table[at + 11] = 5;
            table[at + 15] = offset;
            table[at + 16] = 177;
            form("0; ".repeat(n) + "3; 170 @e 5 @e; e: 177", table);
            int[] pairs = new int[n + 2 + fill + 16 + 1];
            pairs[n] = 3;
            pairs[n + 1] = 171;
            pairs[at + 3] = offset;
            pairs[at + 7] = 1;
            pairs[at + 11] = 9;
            pairs[at + 15] = offset;
            pairs[at + 16] = 177;
            form("0; ".repeat(n) + "3; 171 @e 9 @e; e: 177", pairs);
        }
        // the ends of the ints, and none
        int[] none = {3, 171, 0, 0, 0, 0, 0, 11, 0, 0, 0, 0, 177};
        form("3; 171 @e; e: 177", none);
        int[] ends = {3, 170, 0, 0, 0, 0, 0, 23, 127, 255, 255, 254, 127, 255, 255, 255, 0, 0, 0, 23, 255, 255, 255, 255,
            177};
        form("a: 3; 170 @e 2147483646 @e @a; e: 177", ends);
        int[] low = {3, 171, 0, 0, 255, 255, 255, 255, 0, 0, 0, 2, 128, 0, 0, 0, 0, 0, 0, 27, 127, 255, 255, 255, 255,
            255, 255, 255, 177};
        form("a: 3; 171 @a -2147483648 @e 2147483647 @a; e: 177", low);
    }

    private static int poolOf(Kit.Klass k) {
        CodeFoundry x = Kit.checked(k);
        x.write(0);
        return x.byteAt(8) << 8 | x.byteAt(9);
    }

    /** "equal ones once". */
    private static void equalOnesOnce() {
        Kit.due("the same class above", poolOf(new Kit.Klass("A", "A")), 4);
        Kit.due("a class named Code", poolOf(new Kit.Klass("Code", "Code")), 3);
        Kit.due("names and types alike", poolOf(new Kit.Klass("I", "J").field("I", "I").field("J", "J")), 6);
        Kit.due("a field as its method", poolOf(new Kit.Klass("A", "B").field("m", "I").method("m", "()V", 0, 0, "177")),
                9);
        Kit.due("an int twice", poolOf(new Kit.Klass("A", "B").method("m", "()V", 2, 0,
                "19 int:70000; 19 int:70000; 88; 177")), 9);
        Kit.due("a long twice", poolOf(new Kit.Klass("A", "B").method("m", "()V", 4, 0,
                "20 long:70000; 20 long:70000; 88; 88; 177")), 10);
        Kit.due("an int and a long alike", poolOf(new Kit.Klass("A", "B").method("m", "()V", 3, 0,
                "19 int:70000; 20 long:70000; 88; 87; 177")), 11);
        Kit.due("a field twice", poolOf(new Kit.Klass("A", "B").field("x", "I").method("m", "()V", 2, 0,
                "178 field:x:I; 179 field:x:I; 177")), 12);
        Kit.due("an error twice", poolOf(new Kit.Klass("A", "B").method("m", "()V", 1, 0, "f: 0; t: 177; h: 87; 177",
                "f t h NullError", "f t h NullError", "f t h 0")), 10);
        Kit.due("a class that is an error", poolOf(new Kit.Klass("NullError", "SizeError").method("m", "()V", 1, 0,
                "f: 0; t: 177; h: 87; 177", "f t h NullError", "f t h SizeError")), 8);
        Kit.due("in two methods", poolOf(new Kit.Klass("A", "B").method("m", "()V", 2, 0, "19 int:70000; 87; 177")
                .method("n", "()V", 2, 0, "19 int:70000; 87; 184 call:m:()V; 177")), 12);
        // an int whose bytes are those of a pair or a field is another entry
        Kit.due("bytes alike", poolOf(new Kit.Klass("A", "B").field("x", "I").method("m", "()V", 2, 0,
                "178 field:x:I; 87; 19 int:393223; 87; 19 int:196618; 87; 177")), 14);
    }

    private static String pool(Kit.Klass k) {
        byte[] b = Kit.written(Kit.checked(k), 0);
        StringBuilder text = new StringBuilder();
        int at = 10;
        int n = u2(b, 8);
        for (int i = 1; i < n; i++) {
            if (b[at] == 1) {
                text.append(new String(b, at + 3, u2(b, at + 1), java.nio.charset.StandardCharsets.ISO_8859_1));
                at += 3 + u2(b, at + 1);
            } else if (b[at] == 7) {
                text.append("#").append(u2(b, at + 1));
                at += 3;
            } else if (b[at] == 5) {
                text.append("long");
                at += 9;
                i++;
            } else if (b[at] == 3) {
                text.append("int");
                at += 5;
            } else {
                text.append(b[at]).append("#").append(u2(b, at + 1)).append("#").append(u2(b, at + 3));
                at += 5;
            }
            text.append(" ");
        }
        return text.toString().trim();
    }

    private static void ordered(Kit.Klass k, String want) {
        String got = pool(k);
        Kit.due(got + ", due is " + want, got.equals(want), true);
    }

    /** The same, however many bytes the pool has when an entry is wanted again. */
    private static void equalOnesOnceInAnyRoom() {
        for (int letters = 1; letters <= 100; letters++) {
            Kit.Klass k = new Kit.Klass("n".repeat(letters), "Top").method("m", "()V", 2, 0,
                    "19 int:70000; 87; 19 int:70000; 87; 20 long:9; 88; 20 long:9; 88; 177");
            byte[] b = Kit.written(Kit.checked(k), 0);
            // Code, two names and classes, m, ()V, the int, the long
            Kit.due("the pool", u2(b, 8), 1 + 7 + 1 + 2);
        }
    }

    /** "each entry behind those that it points to, in the order in which they are first needed". */
    private static void order() {
        ordered(new Kit.Klass("A", "B"), "Code A #2 B #4");
        ordered(new Kit.Klass("A", "B").field("y", "J").field("x", "I").method("n", "()V", 0, 0, "177")
                .method("m", "()I", 1, 0, "4; 172"), "Code A #2 B #4 y J x I n ()V m ()I");
        // a call of a later method brings its name and type before it comes itself
        ordered(new Kit.Klass("A", "B").method("a", "()V", 1, 0, "184 call:b:()I; 87; 19 int:70000; 87; 177")
                .method("b", "()I", 2, 0, "20 long:7; 88; 19 int:70000; 172").field("f", "I"),
                "Code A #2 B #4 f I a ()V b ()I 12#10#11 10#3#12 int long");
        // catches behind the instructions, each once
        ordered(new Kit.Klass("A", "B").method("a", "()V", 1, 0, "f: 19 int:70000; t: 87; 177; h: 87; 177",
                "f t h SizeError", "f t h 0", "f t h DivideError", "f t h SizeError").method("b", "()V", 1, 0,
                "f: 19 int:70001; t: 87; 177; h: 87; 177", "f t h NullError"),
                "Code A #2 B #4 a ()V int SizeError #9 DivideError #11 b int NullError #15");
        // what is not reached is written, and needs what it needs
        ordered(new Kit.Klass("A", "B").field("x", "I").method("a", "()V", 1, 0, "177; 178 field:x:I; 19 int:70000; 177"),
                "Code A #2 B #4 x I a ()V 12#6#7 9#3#10 int");
        // other entries with the same bytes become one
        Kit.Klass k = new Kit.Klass("A", "B").field("x", "I").method("a", "()V", 1, 0, "178 field:x:I; 87; 177");
        ordered(k, "Code A #2 B #4 x I a ()V 12#6#7 9#3#10");
    }

    private static int[] limits(Kit.Klass k) {
        byte[] b = Kit.written(Kit.checked(k), 0);
        byte[] all = Kit.codeOf(b, 0);
        return new int[] {u2(all, 0), u2(all, 2)};
    }

    /** "MOST STACK and MOST LOCALS are the least that do". */
    private static void leastStack() {
        for (int n = 0; n <= 24; n++) {
            Kit.due(n + " places", limits(new Kit.Klass().method("m", "()V", 24, 0, "4; ".repeat(n) + "177"))[0], n);
            // a method with one place less has a fault, with as many none
            CodeFoundry x = new CodeFoundry();
            Kit.file(x, new Kit.Klass().method("m", "()V", n, 0, "4; ".repeat(n) + "177").bytes());
            Kit.due("enough", x.verify(0), 0);
        }
        Kit.due("what is not come to", limits(new Kit.Klass().method("m", "()V", 24, 0, "177; 4; 4; 4"))[0], 0);
        Kit.due("a catch wants one", limits(new Kit.Klass().method("m", "()V", 24, 0, "f: 0; t: 177; h: 177",
                "f t h 0"))[0], 1);
        Kit.due("one that is not come to wants none", limits(new Kit.Klass().method("m", "()V", 24, 0,
                "177; f: 0; t: 177; h: 177", "f t h 0"))[0], 0);
        Kit.due("on one of two ways", limits(new Kit.Klass().method("m", "(I)V", 24, 1,
                "26; 153 @a; 9; 9; 97; 88; a: 177"))[0], 4);
        Kit.due("in a handler", limits(new Kit.Klass().method("m", "()V", 24, 0, "f: 0; t: 177; h: 9; 9; 177",
                "f t h 0"))[0], 5);
    }

    private static void leastLocals() {
        String[] types = {"()V", "(I)V", "(J)V", "(I[I)V", "(JJJJ)V"};
        int[] places = {0, 1, 2, 2, 8};
        for (int t = 0; t < types.length; t++) {
            Kit.due(types[t], limits(new Kit.Klass().method("m", types[t], 9, 24, "177"))[1], places[t]);
            for (int k = 0; k < 23; k++) {
                Kit.due("int " + k, limits(new Kit.Klass().method("m", types[t], 9, 24, "4; 54 " + k + "; 177"))[1],
                        Math.max(places[t], k + 1));
                Kit.due("long " + k, limits(new Kit.Klass().method("m", types[t], 9, 24, "9; 55 " + k + "; 177"))[1],
                        Math.max(places[t], k + 2));
                // told by rule 16 of what is not come to as well
                Kit.due("not come to", limits(new Kit.Klass().method("m", types[t], 9, 24, "177; 22 " + k))[1],
                        Math.max(places[t], k + 2));
                Kit.due("not come to", limits(new Kit.Klass().method("m", types[t], 9, 24, "177; 132 " + k + " 1"))[1],
                        Math.max(places[t], k + 1));
            }
        }
        Kit.due("the last", limits(new Kit.Klass().method("m", "()V", 9, 24, "1; 58 23; 177"))[1], 24);
    }

    /** "Other attributes are not looked at, and are left out when it is written". */
    private static void leftOut() {
        Kit.Klass k = new Kit.Klass().field("x", "I").method("m", "()V", 0, 0, "177");
        byte[] b = k.bytes();
        byte[] plain = Kit.written(Kit.checked(k), 0);
        int[] attribute = {0, 1, 0, 0, 0, 2, 7, 7};
        byte[][] others = {Kit.insert(Kit.with(b, k.mark("field0") + 7, 1), k.mark("field0") + 8, attribute),
            Kit.insert(Kit.with(b, k.mark("method0") + 7, 2), k.mark("behind0"), attribute),
            Kit.insert(Kit.with(b, k.mark("method0") + 7, 2), k.mark("method0") + 8, attribute),
            Kit.insert(Kit.with(b, b.length - 1, 1), b.length, attribute),
            Kit.insert(Kit.with(Kit.with(b, k.mark("stack0") - 1, 21), k.mark("behind0") - 1, 1), k.mark("behind0"),
                    attribute)};
        for (byte[] other : others) {
            CodeFoundry x = new CodeFoundry();
            Kit.due("file()", Kit.file(x, other), 0);
            Kit.due("verify(0)", x.verify(0), 0);
            Kit.due("left out", Arrays.equals(Kit.written(x, 0), plain), true);
        }
    }

    /** Files one behind the other: what was needed by one is not taken for what the next one needs. */
    private static void oneBehindTheOther() {
        Kit.Klass[] klasses = {
            new Kit.Klass("A", "B").field("x", "I").field("y", "J").method("a", "()V", 2, 0,
                    "184 call:b:()V; 178 field:x:I; 87; 178 field:y:J; 88; 19 int:70000; 87; 177")
                    .method("b", "()V", 2, 0, "184 call:a:()V; 20 long:7; 88; 177"),
            new Kit.Klass("Other", "Top").field("p", "J").method("m", "(I)I", 2, 1, "20 long:9; 88; 178 field:p:J; 88; "
                    + "26; 184 call:n:(I)I; 172").method("n", "(I)I", 2, 1, "26; 184 call:m:(I)I; 172"),
            new Kit.Klass("C", "C").method("z", "()V", 1, 0, "f: 184 call:z:()V; t: 177; h: 87; 177", "f t h NullError"),
            new Kit.Klass("D", "E")};
        CodeFoundry x = new CodeFoundry();
        byte[][] alone = new byte[klasses.length][];
        for (int k = 0; k < klasses.length; k++) {
            alone[k] = Kit.written(Kit.checked(klasses[k]), 0);
            Kit.due("file()", Kit.file(x, klasses[k].bytes()), k);
            Kit.due("verify", x.verify(k), 0);
        }
        int[] order = {0, 1, 2, 3, 2, 1, 0, 3, 0, 2, 0, 1, 3, 1};
        for (int f : order) {
            Kit.due("as alone", Arrays.equals(Kit.written(x, f), alone[f]), true);
        }
    }

    /** "a long; the next number is no entry": nor is it the one that an earlier file had there. */
    private static void secondNumbers() {
        int threes = 0x03030303;
        String push = "20 long:" + 0x0303030303030303L + "; 88; ";
        String[] codes = {push + "19 int:" + threes + "; 87; 177",
            push + "19 int:70000; 87; 19 int:" + threes + "; 87; 177", push + "19 int:70000; 87; 19 int:70000; 87; 177",
            push + "20 long:" + 0x0303030303030304L + "; 88; 19 int:" + threes + "; 87; 177"};
        for (int letters = 1; letters <= 8; letters++) {
            Kit.Klass first = new Kit.Klass().method("m", "()V", 2, 0, "177")
                    .method("longname".substring(0, letters), "()V", 2, 0, "19 int:80000; 87; 19 int:90000; 87; 177");
            for (String code : codes) {
                Kit.Klass second = new Kit.Klass().method("m", "()V", 2, 0, code);
                byte[] alone = Kit.written(Kit.checked(second), 0);
                CodeFoundry x = Kit.checked(first);
                Kit.due("write(0)", x.write(0) > 0, true);
                Kit.due("file()", Kit.file(x, second.bytes()), 1);
                Kit.due("verify(1)", x.verify(1), 0);
                Kit.due("as alone", Arrays.equals(Kit.written(x, 1), alone), true);
            }
        }
    }

    /** A pool of 500 that is all needed is written as a pool of 500. */
    private static void fullPool() {
        for (int ints = 489; ints <= 490; ints++) {
            Kit.Klass k = new Kit.Klass();
            int left = ints;
            for (int m = 0; m < 3; m++) {
                StringBuilder code = new StringBuilder();
                for (int i = 0; i < 170 && left > 0; i++) {
                    code.append("19 int:").append(100000 + left).append("; 87; ");
                    left--;
                }
                k.method("m" + m, "()V", 1, 0, code + "177");
            }
            if (ints < 490) {
                k.nameEntry("spare");
            }
            CodeFoundry x = Kit.checked(k);
            Kit.due("size(0, 2)", x.size(0, 2), 500);
            byte[] b = Kit.written(x, 0);
            Kit.due("written", u2(b, 8), 10 + ints);
            CodeFoundry y = new CodeFoundry();
            Kit.due("file()", Kit.file(y, b), 0);
        }
    }
}
