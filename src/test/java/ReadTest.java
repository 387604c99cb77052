import java.util.Arrays;

/** Promises 1 to 8: a new object, feed, end, file, rule, place, size, length. */
public final class ReadTest {
    public static void main(String[] args) {
        newObject();
        tray();
        firstRules();
        poolRules();
        headRules();
        memberRules();
        codeRules();
        instructionRules();
        pointerRules();
        handlerRules();
        sizes();
        twelveFiles();
        Kit.finish("ReadTest");
    }

    private static void broken(String what, byte[] b, int rule, int place) {
        Kit.broken(what, b, rule, place);
    }

    private static void sound(String what, byte[] b) {
        Kit.sound(what, b);
    }

    private static Kit.Klass plain() {
        return new Kit.Klass().field("x", "I").field("y", "J").field("z", "[I")
                .method("m", "(IJ)I", 4, 4, "26; 178 field:x:I; 96; 172")
                .method("n", "()V", 3, 3, "4; 5; 6; 184 call:o:(II)V; 87; 177")
                .method("o", "(II)V", 0, 2, "177");
    }

    private static byte[] insert(byte[] b, int place, int... values) {
        return Kit.insert(b, place, values);
    }

    private static void newObject() {
        CodeFoundry x = new CodeFoundry();
        Kit.due("rule()", x.rule(), 0);
        Kit.due("place()", x.place(), -1);
        Kit.due("method()", x.method(), -1);
        Kit.due("at()", x.at(), -1);
        Kit.due("size(0, 0)", x.size(0, 0), -1);
        Kit.due("length(0, 0)", x.length(0, 0), -1);
        Kit.due("byteAt(0)", x.byteAt(0), -1);
        Kit.due("stage(0)", x.stage(0), false);
        Kit.due("run(0, 1)", x.run(0, 1), -1);
        Kit.due("result()", x.result(), 0);
        Kit.due("error()", x.error(), -1);
        Kit.due("steps()", x.steps(), 0);
        Kit.due("field(0)", x.field(0), 0);
        Kit.due("element(1, 0)", x.element(1, 0), 0);
        Kit.due("arrayLength(1)", x.arrayLength(1), -1);
        Kit.due("blocks(0, 0)", x.blocks(0, 0), -1);
        Kit.due("block(0, 0, 0, 0)", x.block(0, 0, 0, 0), -1);
        Kit.due("edge(0, 0, 0, 0)", x.edge(0, 0, 0, 0), false);
        Kit.due("improve(0, 0)", x.improve(0, 0), -1);
        Kit.due("applied(1)", x.applied(1), 0);
        Kit.due("count(0)", x.count(0), -1);
        Kit.due("strays()", x.strays(), 0);
        Kit.due("end(0)", x.end(0), true);
        Kit.due("end(1)", x.end(1), false);
    }

    private static void tray() {
        CodeFoundry x = new CodeFoundry();
        Kit.due("feed", x.feed(0xcafebabe, 49, 0, 0, 0), 20);
        Kit.due("feed", x.feed(0, 0, 0, 0, 0), 40);
        Kit.due("end(-1)", x.end(-1), false);
        Kit.due("end(41)", x.end(41), false);
        Kit.due("end(40)", x.end(40), true);
        Kit.due("end(3)", x.end(3), true);
        Kit.due("end(4)", x.end(4), false);
        Kit.due("feed behind the end", x.feed(0xbe000000, 0x32000000, 0, 0, 0), 23);
        Kit.due("file()", x.file(), -1);
        Kit.due("rule()", x.rule(), 1);
        Kit.due("place()", x.place(), 7);
        Kit.due("the tray is empty", x.feed(0, 0, 0, 0, 0), 20);
        Kit.due("end(0)", x.end(0), true);
        Kit.due("file()", x.file(), -1);
        Kit.due("rule()", x.rule(), 2);
        Kit.due("place()", x.place(), 0);
        Kit.due("file()", Kit.file(x, plain().bytes()), 0);
        Kit.due("rule()", x.rule(), 0);
        Kit.due("place()", x.place(), -1);
        // highest byte of a first, b, c, d, e behind it
        CodeFoundry y = new CodeFoundry();
        y.feed(0xcafebabe, 0x00000031, 0x01f50000, 0, 0);
        Kit.due("file()", y.file(), -1);
        Kit.due("rule()", y.rule(), 5);
        Kit.due("place()", y.place(), 8);
    }

    private static void firstRules() {
        byte[] b = plain().bytes();
        sound("plain", b);
        for (int i = 0; i < 8; i++) {
            broken("magic " + i, Kit.with(b, i, b[i] ^ 1), 1, i);
            broken("short magic " + i, Arrays.copyOf(b, i), 2, i);
        }
        for (int n = 8; n < b.length; n++) {
            broken("short " + n, Arrays.copyOf(b, n), 2, n);
        }
        broken("wrong and short", new byte[] {(byte) 202, (byte) 254, 0}, 1, 2);
        broken("pool 0", Kit.with(b, 8, 0, 0), 5, 8);
        broken("pool 501", Kit.with(b, 8, 1, 245), 5, 8);
        broken("pool 500 goes on into the rest", Kit.with(b, 8, 1, 244), 3, plain1Flags());
        broken("half a pool's number", Arrays.copyOf(b, 9), 2, 9);
        for (int tag : new int[] {0, 2, 4, 6, 8, 11, 13, 255}) {
            broken("tag " + tag, Kit.with(b, 10, tag), 3, 10);
        }
        Kit.Klass k = plain();
        byte[] c = k.bytes();
        broken("25 fields", Kit.with(c, k.mark("fields"), 0, 25), 5, k.mark("fields"));
        broken("25 methods", Kit.with(c, k.mark("methods"), 0, 25), 5, k.mark("methods"));
        broken("24 fields go beyond", Kit.with(c, k.mark("fields"), 0, 24), 2, c.length);
        broken("an attribute beyond the file", Kit.with(c, k.mark("method2") + 10, 0, 0, 1, 0), 2, c.length);
        broken("an attribute far beyond", Kit.with(c, k.mark("method0") + 10, 255, 255, 255, 255), 2, c.length);
        broken("behind the file", insert(c, c.length, 7), 17, c.length);
    }

    private static int plain1Flags() {
        // the flags' first byte 0 is taken as a tag
        Kit.Klass k = plain();
        k.bytes();
        return k.mark("flags");
    }

    private static void poolRules() {
        Kit.Klass k = plain();
        byte[] b = k.bytes();
        int first = k.mark("entry1");
        broken("name of 0 bytes", Kit.with(b, first + 1, 0, 0), 4, first);
        broken("name of 101 bytes", Kit.with(b, first + 1, 0, 101), 4, first);
        broken("name beyond the file, too long", Kit.with(b, first + 1, 255, 255), 4, first);
        broken("space in a name", Kit.with(b, first + 4, 32), 4, first);
        broken("127 in a name", Kit.with(b, first + 4, 127), 4, first);
        broken("200 in a name", Kit.with(b, first + 3, 200), 4, first);
        sound("33 and 126 in a name", Kit.with(b, first + 3, 33, 126));
        Kit.Klass hundred = plain();
        hundred.nameEntry("n".repeat(100));
        sound("name of 100 bytes", hundred.bytes());
        broken("short name", Arrays.copyOf(b, first + 5), 2, first + 5);
        broken("short name with a wrong sign", Arrays.copyOf(Kit.with(b, first + 4, 9), first + 6), 4, first);

        Kit.Klass p = plain();
        int name = p.nameEntry("s");
        int klass = p.classEntry("T");
        int pair = p.pairEntry("s", "I");
        int field = p.memberEntry(9, "T", "s", "I");
        int method = p.memberEntry(10, "T", "s", "()V");
        int number = p.longEntry(5);
        byte[] c = p.bytes();
        sound("unused entries", c);
        broken("class to class", Kit.with(c, p.mark("entry" + klass) + 2, klass), 6, p.mark("entry" + klass));
        broken("class to 0", Kit.with(c, p.mark("entry" + klass) + 2, 0), 6, p.mark("entry" + klass));
        broken("class beyond", Kit.with(c, p.mark("entry" + klass) + 1, 9), 6, p.mark("entry" + klass));
        broken("class to no entry", Kit.with(c, p.mark("entry" + klass) + 2, number + 1), 6,
                p.mark("entry" + klass));
        broken("pair's name", Kit.with(c, p.mark("entry" + pair) + 2, klass), 6, p.mark("entry" + pair));
        broken("pair's type", Kit.with(c, p.mark("entry" + pair) + 4, number), 6, p.mark("entry" + pair));
        broken("field's class", Kit.with(c, p.mark("entry" + field) + 2, name), 6, p.mark("entry" + field));
        broken("field's pair", Kit.with(c, p.mark("entry" + field) + 4, klass), 6, p.mark("entry" + field));
        broken("method's class", Kit.with(c, p.mark("entry" + method) + 2, pair), 6, p.mark("entry" + method));
        broken("method's pair", Kit.with(c, p.mark("entry" + method) + 4, method), 6, p.mark("entry" + method));
        int other = p.pairEntry("s", "()V");
        broken("field with a method's type", Kit.with(c, p.mark("entry" + field) + 4, other), 10,
                p.mark("entry" + field));
        broken("method with a field's type", Kit.with(c, p.mark("entry" + method) + 4, pair), 10,
                p.mark("entry" + method));
        // rule 6 comes before rule 7 and all behind it, from the left
        broken("6 before 7", Kit.with(Kit.with(c, p.mark("flags"), 0, 0), p.mark("entry" + klass) + 2, 0), 6,
                p.mark("entry" + klass));
    }

    private static void headRules() {
        Kit.Klass k = plain();
        byte[] b = k.bytes();
        int flags = k.mark("flags");
        broken("flags", Kit.with(b, flags + 1, 32), 7, flags);
        broken("field's flags", Kit.with(b, k.mark("field1") + 1, 8), 7, k.mark("field1"));
        broken("method's flags", Kit.with(b, k.mark("method2"), 1), 7, k.mark("method2"));
        broken("7 from the left", Kit.with(Kit.with(b, k.mark("method0"), 1), k.mark("field2"), 1), 7,
                k.mark("field2"));
        broken("class", Kit.with(b, flags + 3, 1), 8, flags + 2);
        broken("class above", Kit.with(b, flags + 4, 0, 0), 8, flags + 4);
        broken("the U2 behind", Kit.with(b, flags + 7, 1), 8, flags + 6);
        sound("class above itself", Kit.with(b, flags + 5, b[flags + 3]));
    }

    private static void memberRules() {
        Kit.Klass k = plain();
        byte[] b = k.bytes();
        broken("field's name", Kit.with(b, k.mark("field0") + 3, 2), 9, k.mark("field0") + 2);
        broken("field's type no name", Kit.with(b, k.mark("field0") + 5, 0), 9, k.mark("field0") + 4);
        broken("method's name", Kit.with(b, k.mark("method1") + 2, 1), 9, k.mark("method1") + 2);
        broken("attribute's name", Kit.with(b, k.mark("method1") + 9, 2), 9, k.mark("method1") + 8);
        byte[] attribute = insert(Kit.with(b, k.mark("attributes") + 1, 1), b.length, 0, 1, 0, 0, 0, 1, 55);
        sound("a file's attribute", attribute);
        broken("its name", Kit.with(attribute, k.mark("attributes") + 3, 2), 9, k.mark("attributes") + 2);
        int code = k.nameEntry("Code");
        byte[] onField = insert(Kit.with(b, k.mark("field0") + 7, 1), k.mark("field0") + 8, 0, code, 0, 0, 0, 0);
        sound("no field's Code counts", onField);
        int main = k.nameEntry("Main");
        broken("field's type", Kit.with(b, k.mark("field2") + 5, main), 10, k.mark("field2") + 4);
        broken("method's type", Kit.with(b, k.mark("method0") + 5, main), 10, k.mark("method0") + 4);
        broken("method with a field's type", Kit.with(b, k.mark("method0") + 5, k.nameEntry("I")), 10,
                k.mark("method0") + 4);
        for (String type : new String[] {"(", "()", "(V)V", "()VV", "I()V", "([)V", "([J)V", "()[J", "()[", "(I)",
                "(II", ")V", "(I;)V", "(JJJJI)V", "(IIIIIIIII)V", "(J[IJIIJ)V"}) {
            Kit.Klass t = new Kit.Klass().method("m", type, 0, 9, "177");
            byte[] c = t.bytes();
            broken("type " + type, c, 10, t.mark("method0") + 4);
        }
        for (String type : new String[] {"()V", "(JJJJ)V", "(IIIIIIII)V", "([I[IJJII)[I", "()J"}) {
            sound("type " + type, new Kit.Klass().method("m", type, 0, 8, "177").bytes());
        }
        broken("two fields of a name", Kit.with(b, k.mark("field2") + 3, b[k.mark("field0") + 3]), 11,
                k.mark("field2") + 2);
        broken("two methods of a name", Kit.with(b, k.mark("method1") + 3, b[k.mark("method0") + 3]), 11,
                k.mark("method1") + 2);
        sound("a field and a method of a name", Kit.with(b, k.mark("method0") + 3, b[k.mark("field0") + 3]));
        broken("no Code", Kit.with(b, k.mark("method1") + 9, main), 12, k.mark("method1"));
        int at = k.mark("method1");
        int length = k.mark("behind1") - at - 8;
        byte[] twice = insert(Kit.with(b, at + 7, 2), at + 8, slice(b, at + 8, length));
        broken("Code twice", twice, 12, at);
        broken("12 before 17", insert(twice, twice.length, 0), 12, at);
    }

    private static int[] slice(byte[] b, int from, int n) {
        int[] v = new int[n];
        for (int i = 0; i < n; i++) {
            v[i] = b[from + i];
        }
        return v;
    }

    private static void codeRules() {
        Kit.Klass k = plain();
        byte[] b = k.bytes();
        int stack = k.mark("stack0");
        int end = k.mark("behind0");
        sound("most stack 24", Kit.with(b, stack + 1, 24));
        broken("most stack 25", Kit.with(b, stack + 1, 25), 13, stack);
        broken("most stack 256", Kit.with(b, stack, 1), 13, stack);
        sound("most locals 24", Kit.with(b, stack + 3, 24));
        broken("most locals 25", Kit.with(b, stack + 3, 25), 13, stack + 2);
        sound("most locals 3, as many as the parameters", Kit.with(b, stack + 3, 3));
        broken("most locals below the parameters", Kit.with(b, stack + 3, 2), 13, stack + 2);
        broken("no code", Kit.with(b, stack + 7, 0), 13, stack + 4);
        broken("1201 bytes of code", Kit.with(b, stack + 6, 4, 177), 13, stack + 4);
        broken("1200 bytes go beyond", Kit.with(b, stack + 6, 4, 176), 14, end);
        broken("much code", Kit.with(b, stack + 4, 255, 255, 255, 255), 13, stack + 4);
        int catches = k.mark("catches0");
        broken("17 catches", Kit.with(b, catches + 1, 17), 13, catches);
        broken("a catch beyond", Kit.with(b, catches + 1, 1), 14, end);
        broken("an attribute beyond", Kit.with(b, catches + 3, 1), 14, end);
        broken("13 from the left", Kit.with(Kit.with(b, stack + 3, 25), catches + 1, 17), 13, stack + 2);
        broken("the first method first", Kit.with(Kit.with(b, k.mark("stack1") + 1, 25), catches + 1, 17), 13,
                catches);
        int length = k.mark("method0") + 10;
        byte[] behind = insert(Kit.with(b, length, 0, 0, 0, end - stack + 1), end, 5);
        broken("behind the items", behind, 14, end);
        byte[] named = Kit.with(b, length, 0, 0, 0, end - stack + 6);
        named = insert(Kit.with(named, end - 1, 1), end, 1, 99, 0, 0, 0, 0);
        sound("names of attributes in Code are not looked at", named);
        broken("attribute beyond Code", Kit.with(named, end + 5, 1), 14, end + 6);
        for (int n = 0; n < end - stack; n++) {
            byte[] cut = Kit.with(b, length, 0, 0, 0, n);
            byte[] c = new byte[b.length - (end - stack) + n];
            System.arraycopy(cut, 0, c, 0, stack + n);
            System.arraycopy(cut, end, c, stack + n, cut.length - end);
            broken("Code of " + n + " bytes", c, 14, stack + n);
        }
        Kit.Klass long1 = new Kit.Klass().method("m", "()V", 0, 0, "0;".repeat(1199) + "177");
        sound("1200 bytes of code", long1.bytes());
    }

    private static void code(String what, String text, int rule, int offset) {
        Kit.Klass k = new Kit.Klass().field("x", "I").method("m", "()V", 4, 4, text);
        byte[] b = k.bytes();
        broken(what, b, rule, rule == 0 ? -1 : k.mark("code0") + offset);
    }

    private static void instructionRules() {
        boolean[] known = new boolean[256];
        int[][] ranges = {{0, 10}, {16, 22}, {25, 33}, {42, 46}, {54, 55}, {58, 66}, {75, 79}, {87, 90}, {92, 92},
            {95, 97}, {100, 101}, {104, 105}, {108, 109}, {112, 113}, {116, 117}, {120, 133}, {136, 136}, {145, 148},
            {153, 167}, {170, 173}, {176, 179}, {184, 184}, {188, 188}, {190, 191}, {196, 196}, {198, 200}};
        for (int[] r : ranges) {
            for (int op = r[0]; op <= r[1]; op++) {
                known[op] = true;
            }
        }
        for (int op = 0; op < 256; op++) {
            if (!known[op]) {
                code("no instruction " + op, "0; " + op + " 0 0 0 0; 177", 15, 1);
            }
        }
        for (int op : new int[] {16, 17, 18, 19, 20, 21, 54, 132, 153, 167, 178, 184, 188, 196, 198, 200}) {
            code("not whole " + op, "0; 0; " + op, 15, 2);
        }
        code("two bytes of three", "0; 17; 1", 15, 1);
        code("four bytes of five", "200; 0; 0; 0", 15, 0);
        code("new of another sort", "4; 188 11; 87; 177", 15, 1);
        code("new ints", "4; 188 10; 87; 177", 0, 0);
        code("wide of another one", "196 16 0; 177", 15, 0);
        code("wide not whole", "196 132 1", 15, 0);
        code("wide", "4; 196 54 3; 196 132 3 -300; 196 21 3; 87; 177", 0, 0);
        code("table", "3; 170 @a -1 @a @b; a: 177; b: 177", 0, 0);
        String table = "3; 170; 0; 0; 0; 0; 0; 19; ";
        code("low above high", table + "0; 0; 0; 2; 0; 0; 0; 1; 177", 15, 1);
        code("the span wraps", table + "128; 0; 0; 0; 127; 255; 255; 255; 177", 15, 1);
        code("201 apart", table + "0; 0; 0; 0; 0; 0; 0; 201; " + "0;".repeat(820) + "177", 15, 1);
        code("table not whole", "3; 170 @a 0 @a @b; a:", 16, 1);
        code("table cut", table + "0; 0; 0; 0; 0; 0; 0; 0; 0; 0; 0", 15, 1);
        code("numbers rising", "3; 171 @a -5 @a 3 @b; a: 177; b: 177", 0, 0);
        code("numbers equal", "3; 171 @a 3 @a 3 @b; a: 177; b: 177", 15, 1);
        code("numbers falling", "3; 171 @a 3 @a -3 @b; a: 177; b: 177", 15, 1);
        code("no pairs", "3; 171 @a; a: 177", 0, 0);
        code("pairs below 0", "3; 171; 0; 0; 0; 0; 0; 11; 255; 255; 255; 255; 177", 15, 1);
        code("201 pairs", "3; 171; 0; 0; 0; 0; 0; 11; 0; 0; 0; 201; 177", 15, 1);
        // 15 is looked at in every method before 16 in any
        Kit.Klass k = new Kit.Klass().method("m", "()V", 1, 0, "167 100; 177").method("n", "()V", 1, 0, "11; 177");
        byte[] b = k.bytes();
        broken("15 before 16", b, 15, k.mark("code1"));
    }

    private static void pointerRules() {
        code("jump to the end", "167 @e; 177; e:", 16, 0);
        code("jump into an instruction", "0; 167 1; 177", 16, 1);
        code("jump before", "0; 167 -2; 177", 16, 1);
        code("far jump", "200 @e; e: 177", 0, 0);
        code("far jump beyond", "0; 200 2147483647; 177", 16, 1);
        code("default beyond", "3; 170 @e 0 @a; a: 177; e:", 16, 1);
        code("target beyond", "3; 170 @a 0 @a @e; a: 177; e:", 16, 1);
        code("target of a pair beyond", "3; 171 @a 4 @a 5 @e; a: 177; e:", 16, 1);
        code("local 3", "3; 54 3; 177", 0, 0);
        code("local 4", "3; 54 4; 177", 16, 1);
        code("long 2", "9; 55 2; 177", 0, 0);
        code("long 3", "9; 55 3; 177", 16, 1);
        code("long 3 in short", "9; 66; 177", 16, 1);
        code("wide local 260", "3; 196 54 260; 177", 16, 1);
        code("wide local 4", "196 22 3; 177", 16, 0);
        code("grow 4", "132 4 1; 177", 16, 0);
        code("wide grow 256", "196 132 256 1; 177", 16, 0);
        code("the int of the pool", "18 int:70000; 19 int:70000; 20 long:7; 177", 0, 0);
        code("int 18 is a long", "3; 18 long:7; 177", 16, 1);
        code("int 19 is a name", "3; 19 1; 177", 16, 1);
        code("long 20 is an int", "3; 20 int:7; 177", 16, 1);
        code("entry 0", "18 0; 177", 16, 0);
        code("entry beyond", "19 400; 177", 16, 0);
        code("field", "178 field:x:I; 179 field:x:I; 177", 0, 0);
        code("field of another type", "178 field:x:J; 177", 16, 0);
        code("no such field", "178 field:y:I; 177", 16, 0);
        code("field of another class", "178 otherField:x:I; 177", 16, 0);
        code("field by a method", "178 call:m:()V; 177", 16, 0);
        code("method", "184 call:m:()V; 177", 0, 0);
        code("method of another type", "184 call:m:()I; 177", 16, 0);
        code("no such method", "184 call:x:()V; 177", 16, 0);
        code("method by a field", "184 field:x:I; 177", 16, 0);
        Kit.Klass k = new Kit.Klass().field("x", "I").method("m", "()V", 1, 0, "178 field:x:I; 87; 177");
        int again = k.raw("again", 1, 0, 4, 'M', 'a', 'i', 'n');
        int second = k.raw("second", 7, 0, again);
        byte[] b = k.bytes();
        int entry = k.mark("entry" + k.memberEntry(9, "Main", "x", "I"));
        sound("the class by its name", Kit.with(b, entry + 2, second));
    }

    private static void handlerRules() {
        String code = "a: 4; 16 7; b: 87; c: 87; 177; h: 87; 177; e:";
        for (String h : new String[] {"a b h 0", "a e h DivideError", "b c h NullError", "a b a IndexError",
            "c e h SizeError"}) {
            sound("handler " + h, new Kit.Klass().method("m", "()V", 2, 0, code, h).bytes());
        }
        Kit.Klass k = new Kit.Klass().method("m", "()V", 2, 0, code, "a b h 0", "b c h 0");
        k.classEntry("Error");
        byte[] b = k.bytes();
        int first = k.mark("catches0") + 2;
        broken("from in an instruction", Kit.with(b, first, 0, 2), 16, first);
        broken("to in an instruction", Kit.with(b, first + 2, 0, 2), 16, first);
        broken("at in an instruction", Kit.with(b, first + 4, 0, 2), 16, first);
        broken("from at the end", Kit.with(b, first, 0, 8), 16, first);
        broken("at the end", Kit.with(b, first + 4, 0, 8), 16, first);
        broken("to beyond the end", Kit.with(b, first + 2, 0, 9), 16, first);
        broken("from at to", Kit.with(b, first + 2, 0, 0), 16, first);
        broken("the second", Kit.with(b, first + 8, 0, 5), 16, first + 8);
        broken("another class", Kit.with(b, first + 7, k.classEntry("Error")), 16, first);
        broken("a name", Kit.with(b, first + 7, 1), 16, first);
        broken("no entry", Kit.with(b, first + 6, 1), 16, first);
        broken("instructions before handlers", Kit.with(Kit.with(b, first, 0, 2), k.mark("code0") + 4, 75), 16,
                k.mark("code0") + 4);
        Kit.Klass many = new Kit.Klass().method("m", "()V", 2, 0, code, "a b h 0;".repeat(16).split(";"));
        sound("16 catches", many.bytes());
    }

    private static void sizes() {
        CodeFoundry x = new CodeFoundry();
        Kit.Klass k = plain();
        byte[] b = k.bytes();
        Kit.due("file()", Kit.file(x, b), 0);
        Kit.due("file()", Kit.file(x, new Kit.Klass().bytes()), 1);
        Kit.due("size(0, 0)", x.size(0, 0), 3);
        Kit.due("size(0, 1)", x.size(0, 1), 3);
        Kit.due("size(0, 2)", x.size(0, 2), (b[8] & 255) << 8 | b[9] & 255);
        Kit.due("size(0, 3)", x.size(0, 3), 11);
        Kit.due("size(0, 4)", x.size(0, 4), -1);
        Kit.due("size(0, -1)", x.size(0, -1), -1);
        Kit.due("size(2, 0)", x.size(2, 0), -1);
        Kit.due("size(-1, 0)", x.size(-1, 0), -1);
        Kit.due("size(1, 0)", x.size(1, 0), 0);
        Kit.due("size(1, 1)", x.size(1, 1), 0);
        Kit.due("size(1, 2)", x.size(1, 2), 5);
        Kit.due("size(1, 3)", x.size(1, 3), 0);
        Kit.due("length(0, 0)", x.length(0, 0), 4);
        Kit.due("length(0, 1)", x.length(0, 1), 6);
        Kit.due("length(0, 2)", x.length(0, 2), 1);
        Kit.due("length(0, 3)", x.length(0, 3), -1);
        Kit.due("length(0, -1)", x.length(0, -1), -1);
        Kit.due("length(1, 0)", x.length(1, 0), -1);
        Kit.due("length(9, 0)", x.length(9, 0), -1);
        CodeFoundry y = new CodeFoundry();
        Kit.Klass w = new Kit.Klass().method("m", "()V", 1, 1,
                "3; 196 54 0; 196 132 0 5; 200 @a; a: 3; 170 @b 0 @b; b: 177");
        Kit.due("file()", Kit.file(y, w.bytes()), 0);
        Kit.due("length of long instructions", y.length(0, 0), 7);
    }

    private static void twelveFiles() {
        CodeFoundry x = new CodeFoundry();
        byte[] b = new Kit.Klass().bytes();
        for (int f = 0; f < 12; f++) {
            if (f == 11) {
                Kit.due("file()", Kit.file(x, Kit.with(b, 8, 0, 0)), -1);
            }
            Kit.due("file()", Kit.file(x, b), f);
        }
        Kit.due("the thirteenth", Kit.file(x, b), -2);
        Kit.due("rule()", x.rule(), 0);
        Kit.due("place()", x.place(), -1);
        Kit.due("the tray stays", x.end(b.length), true);
        Kit.due("file()", x.file(), -2);
        CodeFoundry y = new CodeFoundry();
        Kit.due("file()", Kit.file(y, b), 0);
        Kit.due("verify(0)", y.verify(0), 0);
        for (int f = 1; f < 12; f++) {
            if (f == 11) {
                Kit.due("file()", Kit.file(y, Kit.with(b, 2, 0)), -1);
            }
            Kit.due("improve(0, 0)", y.improve(0, 0), f);
        }
        Kit.due("file()", Kit.file(y, b), -2);
        Kit.due("rule() stays", y.rule(), 1);
        Kit.due("place() stays", y.place(), 2);
    }
}
