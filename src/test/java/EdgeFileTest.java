import java.util.ArrayList;
import java.util.Arrays;
import java.util.List;

/** The edges of term 1, FILES: rules 1 to 12 and 17, sentence by sentence, and the order of all seventeen. */
public final class EdgeFileTest {
    public static void main(String[] args) {
        firstEightBytes();
        noItemBeyondTheFile();
        tags();
        names();
        poolNumbers();
        membersAtMost();
        firstPlaceIsTold();
        entriesPointToTheirSort();
        flags();
        classes();
        memberNames();
        types();
        typesInPairs();
        twins();
        justOneCode();
        nothingBehind();
        ruleByRule();
        Kit.finish("EdgeFileTest");
    }

    /** "U4 202 254 186 190; U2 0, U2 49": the head, then n. */
    private static Kit.Raw head(int n) {
        return new Kit.Raw().u1(202, 254, 186, 190).u2(0, 49).u2(n);
    }

    /** What stands behind the pool of a file without members. */
    private static byte[] tail(Kit.Raw raw, int own, int above) {
        return raw.u2(33, own, above, 0, 0, 0, 0).bytes();
    }

    private static Kit.Raw classes(Kit.Raw raw) {
        return raw.name("A").u1(7).u2(1);
    }

    private static Kit.Klass full() {
        Kit.Klass k = new Kit.Klass().field("x", "I").field("y", "J").field("z", "[I")
                .method("m", "(IJ)I", 4, 4, "26; 178 field:x:I; 96; 172")
                .method("n", "()V", 3, 3, "a: 4; 5; 6; 184 call:o:(II)V; b: 87; 177; h: 87; 177", "a b h SizeError")
                .method("o", "(II)V", 0, 2, "177");
        k.longEntry(5);
        return k;
    }

    /** "1 the first 8 bytes are as told (at the first that is not)". */
    private static void firstEightBytes() {
        byte[] b = tail(classes(head(3)), 2, 2);
        Kit.sound("as told", b);
        for (int i = 0; i < 8; i++) {
            for (int other : new int[] {0, 255, b[i] + 1, b[i] - 1}) {
                if ((byte) other != b[i]) {
                    Kit.broken("byte " + i, Kit.with(b, i, other), 1, i);
                    Kit.broken("byte " + i + " and 7", Kit.with(Kit.with(b, 7, 48), i, other), 1, i);
                }
            }
        }
        Kit.broken("byte 8 is no such byte", Kit.with(b, 8, 1, 245), 5, 8);
    }

    /** "2 no item goes beyond the file (at the file's end)". */
    private static void noItemBeyondTheFile() {
        Kit.Klass k = full();
        byte[] b = k.bytes();
        int code = k.nameEntry("Code");
        // attributes everywhere: of a field, of a method behind its Code, of the file
        b = Kit.insert(Kit.with(b, k.mark("attributes") + 1, 1), b.length, 0, code, 0, 0, 0, 3, 1, 2, 3);
        b = Kit.insert(Kit.with(b, k.mark("method0") + 7, 2), k.mark("behind0"), 0, 1, 0, 0, 0, 1, 9);
        b = Kit.insert(Kit.with(b, k.mark("field1") + 7, 1), k.mark("field1") + 8, 0, 1, 0, 0, 0, 2, 8, 8);
        Kit.sound("attributes everywhere", b);
        for (int n = 0; n < b.length; n++) {
            Kit.broken("the first " + n + " bytes", Arrays.copyOf(b, n), 2, n);
        }
        int last = b.length - 4;
        Kit.broken("the last attribute one byte longer", Kit.with(b, last, 4), 2, b.length);
        Kit.broken("and one shorter", Kit.with(b, last, 2), 17, b.length - 1);
        Kit.broken("a length of 2^31", Kit.with(b, last - 3, 128, 0, 0, 0), 2, b.length);
        Kit.broken("a length of 2^32 - 1", Kit.with(b, last - 3, 255, 255, 255, 255), 2, b.length);
        int onField = k.mark("field1") + 8;
        Kit.broken("a field's far beyond", Kit.with(b, onField + 2, 127, 255, 255, 255), 2, b.length);
        Kit.broken("65535 attributes", Kit.with(b, k.mark("field2") + 8 + 6, 255, 255), 2, b.length);
        Kit.broken("empty", new byte[0], 2, 0);
        Kit.broken("n alone", head(1).bytes(), 2, 10);
        Kit.broken("an int's three bytes", head(2).u1(3, 0, 0, 0).bytes(), 2, 14);
        Kit.broken("a long's seven bytes", head(3).u1(5, 0, 0, 0, 0, 0, 0, 0).bytes(), 2, 18);
        Kit.broken("a class' one byte", head(2).u1(7, 0).bytes(), 2, 12);
        for (int tag : new int[] {9, 10, 12}) {
            Kit.broken("three bytes of " + tag, head(2).u1(tag, 0, 0, 0).bytes(), 2, 14);
        }
        Kit.broken("a tag alone", head(2).u1(1).bytes(), 2, 11);
        Kit.broken("half a length", head(2).u1(1, 0).bytes(), 2, 12);
        Kit.broken("a name's last byte", head(2).u1(1, 0, 3, 65, 65).bytes(), 2, 15);
    }

    /** "3 a tag is one of those (at it)". */
    private static void tags() {
        for (int tag = 0; tag < 256; tag++) {
            boolean known = tag == 1 || tag == 3 || tag == 5 || tag == 7 || tag == 9 || tag == 10 || tag == 12;
            if (!known) {
                Kit.broken("tag " + tag, tail(classes(head(4)).u1(tag, 0, 0, 0, 0), 2, 2), 3, 17);
                Kit.broken("tag " + tag + " and the file's end", classes(head(4)).u1(tag).bytes(), 3, 17);
            }
        }
        Kit.sound("1", tail(classes(head(4)).name("B"), 2, 2));
        Kit.sound("3", tail(classes(head(4)).u1(3).u4(-1), 2, 2));
        Kit.sound("5", tail(classes(head(5)).u1(5).u4(-1, -1), 2, 2));
        Kit.sound("7", tail(classes(head(4)).u1(7).u2(1), 2, 3));
        Kit.sound("12", tail(classes(head(4)).u1(12).u2(1, 1), 2, 2));
        Kit.sound("9", tail(classes(head(6)).name("I").u1(12).u2(1, 3).u1(9).u2(2, 4), 2, 2));
        Kit.sound("10", tail(classes(head(6)).name("()V").u1(12).u2(1, 3).u1(10).u2(2, 4), 2, 2));
    }

    /** "4 a NAME has 1 .. 100 bytes, all 33 .. 126 (at its tag)". */
    private static void names() {
        for (int c = 0; c < 256; c++) {
            boolean good = c >= 33 && c <= 126;
            Kit.broken("sign " + c, tail(classes(head(4)).u1(1, 0, 1, c), 2, 2), good ? 0 : 4, good ? -1 : 17);
        }
        for (int n : new int[] {0, 1, 2, 99, 100, 101, 255, 256}) {
            boolean good = n >= 1 && n <= 100;
            Kit.broken(n + " bytes", tail(classes(head(4)).name("x".repeat(n)), 2, 2), good ? 0 : 4, good ? -1 : 17);
        }
        byte[] b = tail(classes(head(4)).name("x".repeat(100)), 2, 2);
        for (int i : new int[] {0, 1, 98, 99}) {
            Kit.broken("low sign at " + i, Kit.with(b, 20 + i, 32), 4, 17);
            Kit.broken("high sign at " + i, Kit.with(b, 20 + i, 127), 4, 17);
            Kit.sound("least sign at " + i, Kit.with(b, 20 + i, 33));
            Kit.sound("greatest sign at " + i, Kit.with(b, 20 + i, 126));
        }
        // lengths have no sign; a wrong length is told before what is missing
        Kit.broken("a length of 65535", classes(head(4)).u1(1, 255, 255, 65).bytes(), 4, 17);
        Kit.broken("a length of 32769", classes(head(4)).u1(1, 128, 1, 65).bytes(), 4, 17);
        Kit.broken("101 and the file's end", classes(head(4)).u1(1, 0, 101).bytes(), 4, 17);
        Kit.broken("100 and the file's end", classes(head(4)).u1(1, 0, 100).bytes(), 2, 20);
        Kit.broken("nothing and the file's end", classes(head(4)).u1(1, 0, 0).bytes(), 4, 17);
    }

    /** "5 n is 1 .. 500"; "5 U8 (a long; the next number is no entry)". */
    private static void poolNumbers() {
        Kit.broken("n is 0", tail(classes(head(0)), 2, 2), 5, 8);
        Kit.broken("n is 501", tail(classes(head(501)), 2, 2), 5, 8);
        Kit.broken("n is 65535", tail(classes(head(65535)), 2, 2), 5, 8);
        Kit.broken("n is 32768", tail(classes(head(32768)), 2, 2), 5, 8);
        Kit.broken("n is 501, and the file's end", head(501).bytes(), 5, 8);
        // no entry at all breaks no rule of its own, but then there is no CLASS
        Kit.broken("n is 1", tail(head(1), 0, 0), 8, 12);
        byte[] full = tail(ints(classes(head(500)), 497), 2, 2);
        Kit.sound("n is 500", full);
        CodeFoundry x = new CodeFoundry();
        Kit.due("file()", Kit.file(x, full), 0);
        Kit.due("size(0, 2)", x.size(0, 2), 500);
        // the last number is a CLASS and is used
        byte[] b = tail(ints(head(500).name("A"), 497).u1(7).u2(1), 499, 499);
        Kit.sound("class 499", b);
        Kit.broken("class 500", Kit.with(b, b.length - 12, 1, 244), 8, b.length - 12);
        Kit.broken("class 498", Kit.with(b, b.length - 12, 1, 242), 8, b.length - 12);
        Kit.broken("class above 500", Kit.with(b, b.length - 10, 1, 244), 8, b.length - 10);
        // longs have two numbers, also at the end
        Kit.sound("long 498", tail(ints(classes(head(500)), 495).u1(5).u4(0, 7), 2, 2));
        Kit.sound("long 499", tail(ints(classes(head(500)), 496).u1(5).u4(0, 7), 2, 2));
        Kit.sound("a long at the end", tail(classes(head(4)).u1(5).u4(0, 7), 2, 2));
        Kit.broken("behind a long stands none", tail(classes(head(5)).u1(5).u4(0, 7), 2, 4), 8, 30);
        Kit.sound("the next but one", tail(classes(head(6)).u1(5).u4(0, 7).u1(7).u2(1), 2, 5));
        Kit.sound("two longs", tail(classes(head(8)).u1(5).u4(0, 7).u1(5).u4(0, 7).u1(7).u2(1), 2, 7));
    }

    private static Kit.Raw ints(Kit.Raw raw, int n) {
        for (int i = 0; i < n; i++) {
            raw.u1(3).u4(i);
        }
        return raw;
    }

    /** "at most 24 fields, 24 methods (at the U2)". */
    private static void membersAtMost() {
        for (int n : new int[] {0, 1, 23, 24, 25}) {
            Kit.Klass f = new Kit.Klass();
            Kit.Klass m = new Kit.Klass();
            for (int k = 0; k < n; k++) {
                f.field("f" + k, "I");
                m.method("m" + k, "()V", 0, 0, "177");
            }
            byte[] fields = f.bytes();
            byte[] methods = m.bytes();
            Kit.broken(n + " fields", fields, n > 24 ? 5 : 0, n > 24 ? f.mark("fields") : -1);
            Kit.broken(n + " methods", methods, n > 24 ? 5 : 0, n > 24 ? m.mark("methods") : -1);
        }
        Kit.Klass both = new Kit.Klass();
        for (int k = 0; k < 24; k++) {
            both.field("a" + k, "J").method("a" + k, "()V", 0, 0, "177");
        }
        CodeFoundry x = new CodeFoundry();
        byte[] b = both.bytes();
        Kit.due("24 and 24", Kit.file(x, b), 0);
        Kit.due("size(0, 0)", x.size(0, 0), 24);
        Kit.due("size(0, 1)", x.size(0, 1), 24);
        Kit.due("length(0, 23)", x.length(0, 23), 1);
        Kit.due("length(0, 24)", x.length(0, 24), -1);
        Kit.broken("32768 fields", Kit.with(b, both.mark("fields"), 128, 0), 5, both.mark("fields"));
        Kit.broken("25 fields and the end", Arrays.copyOf(Kit.with(b, both.mark("fields"), 0, 25),
                both.mark("fields") + 2), 5, both.mark("fields"));
        Kit.broken("65535 methods", Kit.with(b, both.mark("methods"), 255, 255), 5, both.mark("methods"));
    }

    /** "1 to 5 are looked at together, from the left: the first place that breaks one is told". */
    private static void firstPlaceIsTold() {
        Kit.Klass k = full();
        byte[] b = k.bytes();
        // each breaks one rule at its place, whatever stands further right
        int[][] patches = {{0, 0, 1}, {7, 50, 1}, {8, 2, 5}, {10, 2, 3}, {12, 0, 4}, {k.mark("entry3"), 99, 3},
            {k.mark("entry3") + 3, 32, 4}, {k.mark("fields") + 1, 25, 5}, {k.mark("methods") + 1, 25, 5}};
        int[] places = {0, 7, 8, 10, 10, k.mark("entry3"), k.mark("entry3"), k.mark("fields"), k.mark("methods")};
        for (int i = 0; i < patches.length; i++) {
            byte[] one = Kit.with(b, patches[i][0], patches[i][1]);
            Kit.broken("patch " + i, one, patches[i][2], places[i]);
            Kit.broken("patch " + i + " and the end", Arrays.copyOf(one, b.length - 1), patches[i][2], places[i]);
            for (int j = i + 1; j < patches.length; j++) {
                if (places[j] > places[i]) {
                    Kit.broken("patches " + i + " and " + j, Kit.with(one, patches[j][0], patches[j][1]),
                            patches[i][2], places[i]);
                }
            }
        }
        Kit.broken("4 before the end", Arrays.copyOf(Kit.with(b, 13, 10), 14), 4, 10);
        Kit.broken("5 behind the end is not seen", Arrays.copyOf(Kit.with(b, k.mark("fields") + 1, 25),
                k.mark("fields") + 1), 2, k.mark("fields") + 1);
    }

    /** "6 pool entries point to entries of their sort (at the tag)". */
    private static void entriesPointToTheirSort() {
        // 1 name, 2 class, 3 int, 4 5 long, 6 pair, 7 field, 8 name of a type, 9 pair of a method, 10 method, 11 name
        Kit.Raw raw = head(12).name("A").u1(7).u2(1).u1(3).u4(0).u1(5).u4(0, 0);
        int pair = raw.at();
        raw.u1(12).u2(11, 11);
        int field = raw.at();
        raw.u1(9).u2(2, 6);
        raw.name("()V");
        int pair2 = raw.at();
        raw.u1(12).u2(11, 8);
        int method = raw.at();
        raw.u1(10).u2(2, 9);
        byte[] b = tail(raw.name("I"), 2, 2);
        Kit.sound("each to its sort", b);
        int[] sorts = {0, 1, 7, 3, 5, 0, 12, 9, 1, 12, 10, 1, 0};
        for (int k = 0; k < sorts.length; k++) {
            check(b, "class to " + k, 14, k, sorts[k] == 1, 14);
            check(b, "pair's name to " + k, pair + 1, k, sorts[k] == 1, pair);
            check(b, "method's name to " + k, pair2 + 1, k, sorts[k] == 1, pair2);
            check(b, "field's class to " + k, field + 1, k, sorts[k] == 7, field);
            check(b, "method's class to " + k, method + 1, k, sorts[k] == 7, method);
            if (sorts[k] != 1) {
                check(b, "pair's type to " + k, pair + 3, k, false, pair);
            }
            if (sorts[k] != 12) {
                check(b, "field's pair to " + k, field + 3, k, false, field);
                check(b, "method's pair to " + k, method + 3, k, false, method);
            }
        }
        // the first entry of all
        byte[] c = tail(head(4).u1(7).u2(2).name("A").u1(7).u2(2), 1, 1);
        Kit.sound("entry 1 a CLASS", c);
        for (int v : new int[] {0, 1, 3, 4}) {
            Kit.broken("entry 1 to " + v, Kit.with(c, 12, v), 6, 10);
        }
        check(b, "class to 257", 14, 257, false, 14);
        check(b, "class to 65535", 14, 65535, false, 14);
        // what an earlier file had under a number is not there in a later one
        CodeFoundry x = new CodeFoundry();
        Kit.due("file()", Kit.file(x, tail(classes(head(6)).u1(3).u4(0).u1(7).u2(1).name("B"), 2, 4)), 0);
        byte[] gap = tail(classes(head(6)).u1(5).u4(0x07000107, 0x01070001).u1(7).u2(4), 2, 2);
        Kit.due("file()", Kit.file(x, gap), -1);
        Kit.due("rule()", x.rule(), 6);
        Kit.due("file()", Kit.file(x, Kit.with(tail(classes(head(5)).u1(5).u4(0x07000107, 0x01070001), 2, 4),
                26, 0)), -1);
        Kit.due("rule()", x.rule(), 8);
        // from the left
        Kit.broken("two of them", Kit.with(Kit.with(b, method + 2, 0), pair + 2, 0), 6, pair);
        Kit.broken("the first and the last", Kit.with(Kit.with(b, method + 2, 0), 16, 3), 6, 14);
    }

    private static void check(byte[] b, String what, int at, int k, boolean good, int tag) {
        Kit.broken(what, Kit.with(b, at == 14 ? 15 : at, k >> 8, k), good ? 0 : 6, good ? -1 : tag);
    }

    /** "7 flags are as told (at the U2)": 33 of the file, 9 of fields and methods. */
    private static void flags() {
        Kit.Klass k = full();
        byte[] b = k.bytes();
        for (int v : new int[] {0, 32, 34, 0x2100, 0x0121, 65535}) {
            Kit.broken("file's " + v, Kit.with(b, k.mark("flags"), v >> 8, v), 7, k.mark("flags"));
        }
        for (String member : new String[] {"field0", "field1", "field2", "method0", "method1", "method2"}) {
            for (int v : new int[] {0, 8, 10, 0x0900, 0x0109, 33}) {
                Kit.broken(member + "'s " + v, Kit.with(b, k.mark(member), v >> 8, v), 7, k.mark(member));
            }
        }
        byte[] two = Kit.with(Kit.with(b, k.mark("method1"), 1), k.mark("field1"), 1);
        Kit.broken("from the left", two, 7, k.mark("field1"));
        Kit.broken("the file's first", Kit.with(two, k.mark("flags"), 1), 7, k.mark("flags"));
    }

    /** "8 its class and the class above are CLASSes, the U2 behind them is 0 (at the U2)". */
    private static void classes() {
        Kit.Klass k = full();
        byte[] b = k.bytes();
        int at = k.mark("flags") + 2;
        for (int v : new int[] {0, 1, 499, 500, 65535, k.nameEntry("x"), k.longEntry(5), k.longEntry(5) + 1}) {
            Kit.broken("class " + v, Kit.with(b, at, v >> 8, v), 8, at);
            Kit.broken("above " + v, Kit.with(b, at + 2, v >> 8, v), 8, at + 2);
        }
        for (int v : new int[] {1, 256, 65535}) {
            Kit.broken("behind " + v, Kit.with(b, at + 4, v >> 8, v), 8, at + 4);
        }
        Kit.broken("from the left", Kit.with(b, at, 0, 0, 0, 0, 0, 1), 8, at);
        Kit.broken("from the left, above", Kit.with(b, at + 2, 0, 0, 0, 1), 8, at + 2);
    }

    /** "9 names and types of fields and methods, and names of their and the file's attributes, are NAMEs". */
    private static void memberNames() {
        Kit.Klass k = full();
        byte[] b = k.bytes();
        // 0, a class, the number behind a long, beyond the pool
        int[] wrong = {0, 2, k.longEntry(5), k.longEntry(5) + 1, 499, 500, 65535};
        List<Integer> places = new ArrayList<>();
        for (String member : new String[] {"field0", "field1", "field2", "method0", "method1", "method2"}) {
            places.add(k.mark(member) + 2);
            places.add(k.mark(member) + 4);
            if (member.startsWith("m")) {
                places.add(k.mark(member) + 8);
            }
        }
        for (int i = 0; i < places.size(); i++) {
            int at = places.get(i);
            for (int v : wrong) {
                Kit.broken("9 at " + at, Kit.with(b, at, v >> 8, v), 9, at);
            }
            for (int j = i + 1; j < places.size(); j++) {
                Kit.broken("9 from the left", Kit.with(Kit.with(b, at, 0, 0), places.get(j), 0, 0), 9, at);
            }
        }
        // attributes of a field and of the file, the second of two as well
        int at = k.mark("field0") + 8;
        byte[] c = Kit.insert(Kit.with(b, at - 1, 2), at, 0, 1, 0, 0, 0, 1, 5, 0, 1, 0, 0, 0, 0);
        Kit.sound("a field's two attributes", c);
        Kit.broken("the first", Kit.with(c, at + 1, 2), 9, at);
        Kit.broken("the second", Kit.with(c, at + 8, 2), 9, at + 7);
        int end = b.length;
        byte[] d = Kit.insert(Kit.with(b, end - 1, 2), end, 0, 1, 0, 0, 0, 1, 5, 0, 1, 0, 0, 0, 0);
        Kit.sound("the file's two attributes", d);
        Kit.broken("the file's first", Kit.with(d, end + 1, 0), 9, end);
        Kit.broken("the file's second", Kit.with(d, end + 8, 0), 9, end + 7);
    }

    /** "10 types of fields and methods are types, parameters at most 8 places (at the U2)". */
    private static void types() {
        for (String t : new String[] {"I", "J", "[I"}) {
            Kit.sound("field " + t, new Kit.Klass().field("x", t).bytes());
        }
        for (String t : new String[] {"V", "[J", "[", "[[I", "II", "IJ", "JI", "[II", "I[I", "()V", "()I", "i", "Z", "LI;"}) {
            Kit.Klass k = new Kit.Klass().field("w", "I").field("x", t);
            byte[] b = k.bytes();
            Kit.broken("field " + t, b, 10, k.mark("field1") + 4);
        }
        for (String t : new String[] {"()V", "()I", "()J", "()[I", "(I)V", "(J)V", "([I)V", "(IIIIIIII)V", "(JJJJ)J",
            "(IJ[IJII)I", "([I[I[I[I[I[I[I[I)[I", "(JJJII)V", "(IJJJI)V"}) {
            Kit.sound("method " + t, new Kit.Klass().method("x", t, 0, 8, "177").bytes());
        }
        for (String t : new String[] {"I", "V", "(", ")", "()", "(V)V", "(I", "(I)", "I)V", "(I)VV", "(I)II", "(I)I(",
            "()[", "()[V", "()[J", "([)V", "([[I)V", "()()V", "((I)V", "(I))V", "(IIIIIIIII)V", "(JJJJI)V", "(IJJJJ)V",
            "(JJJJJ)V", "([IJJJJ)V", "[I()V", "(I)IJ", "()[II", "(I,I)V", "(VV", "(xI", "(IxJ", "([V", "(]V", "(Ix[I", "(JV", "(,V", "x)V", "xV"}) {
            Kit.Klass k = new Kit.Klass().method("w", "()V", 0, 0, "177").method("x", t, 0, 9, "177");
            byte[] b = k.bytes();
            Kit.broken("method " + t, b, 10, k.mark("method1") + 4);
        }
        // as many parameters as a name can tell are too many, and are told so
        Kit.Klass many = new Kit.Klass().method("x", "(" + "J".repeat(97) + ")V", 0, 24, "177");
        byte[] b = many.bytes();
        Kit.broken("97 longs", b, 10, many.mark("method0") + 4);
        Kit.Klass k = new Kit.Klass().field("a", "V").field("b", "V").method("c", "V", 0, 0, "177");
        byte[] c = k.bytes();
        Kit.broken("from the left", c, 10, k.mark("field0") + 4);
    }

    /** "and in PAIRs: of a FIELD a type, of a METHOD a method's (at the FIELD's or METHOD's tag)". */
    private static void typesInPairs() {
        for (String t : new String[] {"I", "J", "[I", "V", "[", "[J", "II", "()V", "(I)J", "(", "(I", "(JJJJJ)V"}) {
            boolean type = t.equals("I") || t.equals("J") || t.equals("[I");
            boolean methods = t.startsWith("(") && t.contains(")");
            Kit.Klass alone = new Kit.Klass();
            alone.pairEntry("x", t);
            Kit.sound("a PAIR by itself with " + t, alone.bytes());
            Kit.Klass f = new Kit.Klass();
            int field = f.memberEntry(9, "Main", "x", t);
            byte[] b = f.bytes();
            Kit.broken("FIELD with " + t, b, type ? 0 : 10, type ? -1 : f.mark("entry" + field));
            Kit.Klass m = new Kit.Klass();
            int method = m.memberEntry(10, "Main", "x", t);
            byte[] c = m.bytes();
            Kit.broken("METHOD with " + t, c, methods ? 0 : 10, methods ? -1 : m.mark("entry" + method));
        }
        // the first entry of all, a FIELD and a METHOD
        for (int tag : new int[] {9, 10}) {
            byte[] c = tail(head(6).u1(tag).u2(3, 4).name("A").u1(7).u2(2).u1(12).u2(2, 5).name(tag == 9 ? "J" : "()J"),
                    3, 3);
            Kit.sound("entry 1", c);
            Kit.broken("entry 1 with a name that is no type", Kit.with(c, c.length - 15, 'x'), 10, 10);
        }
        // entries stand left of the fields
        Kit.Klass k = new Kit.Klass().field("a", "V");
        int method = k.memberEntry(10, "Main", "x", "I");
        int field = k.memberEntry(9, "Main", "x", "()V");
        byte[] b = k.bytes();
        Kit.broken("the METHOD first", b, 10, k.mark("entry" + method));
        Kit.Klass l = new Kit.Klass().field("a", "V");
        field = l.memberEntry(9, "Main", "x", "()V");
        l.memberEntry(10, "Main", "x", "I");
        b = l.bytes();
        Kit.broken("the FIELD first", b, 10, l.mark("entry" + field));
    }

    /** "11 no two fields, no two methods have the same name (at the later one's name)". */
    private static void twins() {
        String[][] names = {{"a", "b", "a"}, {"a", "a", "b"}, {"b", "a", "a"}, {"a", "a", "a"}};
        int[] later = {2, 1, 2, 1};
        for (int i = 0; i < names.length; i++) {
            Kit.Klass f = new Kit.Klass();
            Kit.Klass m = new Kit.Klass();
            for (int k = 0; k < 3; k++) {
                f.field(names[i][k], k == 0 ? "I" : "J");
                m.method(names[i][k], k == 0 ? "()V" : "(I)V", 0, 1, "177");
            }
            byte[] b = f.bytes();
            byte[] c = m.bytes();
            Kit.broken("fields " + i, b, 11, f.mark("field" + later[i]) + 2);
            Kit.broken("methods " + i, c, 11, m.mark("method" + later[i]) + 2);
        }
        // the same bytes in another entry are the same name; a sign more, less or other is another name
        for (String other : new String[] {"ab", "abc", "a", "b", "aB", "bb", "abb"}) {
            Kit.Klass k = new Kit.Klass().field("ab", "I").field("zz", "I").method("m", "()V", 0, 0, "177");
            int[] entry = new int[3 + other.length()];
            entry[0] = 1;
            entry[2] = other.length();
            for (int i = 0; i < other.length(); i++) {
                entry[3 + i] = other.charAt(i);
            }
            int again = k.raw("again", entry);
            k.intEntry(1);
            byte[] b = k.bytes();
            b = Kit.with(b, k.mark("field1") + 2, again >> 8, again);
            boolean same = other.equals("ab");
            Kit.broken("ab and " + other, b, same ? 11 : 0, same ? k.mark("field1") + 2 : -1);
        }
        Kit.sound("a field and a method", new Kit.Klass().field("a", "I").method("a", "()V", 0, 0, "177").bytes());
        Kit.Klass k = new Kit.Klass().field("a", "I").field("a", "I").method("b", "()V", 0, 0, "177")
                .method("b", "()V", 0, 0, "177");
        byte[] b = k.bytes();
        Kit.broken("fields stand left of methods", b, 11, k.mark("field1") + 2);
    }

    /** "12 a method has just one attribute Code (at its flags)"; "no fields' one counts". */
    private static void justOneCode() {
        Kit.Klass k = full();
        String[] others = {"Code", "Cod", "Codes", "code", "Codf", "Dode", "C"};
        int[] numbers = new int[others.length];
        for (int i = 0; i < others.length; i++) {
            numbers[i] = k.nameEntry(others[i]);
        }
        int again = k.raw("again", 1, 0, 4, 'C', 'o', 'd', 'e');
        byte[] b = k.bytes();
        for (int m = 0; m < 3; m++) {
            int at = k.mark("method" + m);
            Kit.broken("no attribute", cut(Kit.with(b, at + 7, 0), at + 8, k.mark("behind" + m)), 12, at);
            for (int i = 1; i < others.length; i++) {
                Kit.broken(others[i], Kit.with(b, at + 8, 0, numbers[i]), 12, at);
                // beside Code, before it and behind it, another one is not looked at
                int[] other = {0, numbers[i], 0, 0, 0, 2, 9, 9};
                Kit.sound("before", Kit.insert(Kit.with(b, at + 7, 2), at + 8, other));
                Kit.sound("behind", Kit.insert(Kit.with(b, at + 7, 2), k.mark("behind" + m), other));
            }
            Kit.sound("the same name in another entry", Kit.with(b, at + 8, 0, again));
            int[] second = {0, again, 0, 0, 0, 0};
            Kit.broken("twice, before", Kit.insert(Kit.with(b, at + 7, 2), at + 8, second), 12, at);
            Kit.broken("twice, behind", Kit.insert(Kit.with(b, at + 7, 2), k.mark("behind" + m), second), 12, at);
        }
        byte[] two = Kit.with(Kit.with(b, k.mark("method1") + 8, 0, 1), k.mark("method2") + 8, 0, 1);
        Kit.broken("the first method", two, 12, k.mark("method1"));
        int field = k.mark("field0");
        byte[] onField = Kit.insert(Kit.with(b, field + 7, 2), field + 8, 0, again, 0, 0, 0, 0, 0, again, 0, 0, 0, 0);
        Kit.sound("a field may have two", onField);
        int end = b.length;
        Kit.sound("the file may have one", Kit.insert(Kit.with(b, end - 1, 1), end, 0, again, 0, 0, 0, 0));
    }

    private static byte[] cut(byte[] b, int from, int to) {
        byte[] c = Arrays.copyOf(b, b.length - (to - from));
        System.arraycopy(b, to, c, from, b.length - to);
        return c;
    }

    /** "17 nothing stands behind the file's attributes (there)". */
    private static void nothingBehind() {
        byte[] b = full().bytes();
        for (int n = 1; n <= 20; n++) {
            Kit.broken(n + " bytes behind", Arrays.copyOf(b, b.length + n), 17, b.length);
        }
        byte[] c = Kit.insert(Kit.with(b, b.length - 1, 1), b.length, 0, 1, 0, 0, 0, 1, 7);
        Kit.sound("an attribute is not behind", c);
        Kit.broken("but what is behind it", Arrays.copyOf(c, c.length + 1), 17, c.length);
        byte[] none = tail(classes(head(3)), 2, 2);
        Kit.broken("behind a file without members", Arrays.copyOf(none, none.length + 1), 17, none.length);
    }

    /** "Then rule by rule": of two that are broken the one that is looked at first is told, wherever it stands. */
    private static void ruleByRule() {
        Kit.Klass k = full();
        int pair = k.pairEntry("q", "V");
        int field = k.memberEntry(9, "Main", "q", "J");
        byte[] b = k.bytes();
        int tag = k.mark("entry" + field);
        int m0 = k.mark("method0");
        int stack0 = k.mark("stack0");
        int code0 = k.mark("code0");
        int code2 = k.mark("code2");
        // rule, place, where the patch goes, its bytes; in the order in which the rules are looked at
        int[][] patches = {
            {6, k.mark("entry" + k.classEntry("Top")), k.mark("entry" + k.classEntry("Top")) + 1, 0, 0},
            {7, k.mark("field2"), k.mark("field2"), 0, 8},
            {8, k.mark("flags") + 6, k.mark("flags") + 6, 0, 1},
            {9, k.mark("field1") + 2, k.mark("field1") + 2, 0, 0},
            {10, tag, tag + 3, pair >> 8, pair},
            {11, k.mark("method1") + 2, k.mark("method1") + 2, b[m0 + 2], b[m0 + 3]},
            {12, k.mark("method2"), k.mark("method2") + 8, 0, 1},
            {13, stack0, stack0, 0, 25},
            {15, code2, code2, 255},
            {16, code0 + 1, code0 + 2, 0, 0}};
        for (int i = 0; i < patches.length; i++) {
            byte[] one = patched(b, patches[i]);
            Kit.broken("rule " + patches[i][0], one, patches[i][0], patches[i][1]);
            boolean before17 = patches[i][0] <= 12;
            byte[] longer = Arrays.copyOf(one, one.length + 1);
            Kit.broken("rules " + patches[i][0] + " and 17", longer, before17 ? patches[i][0] : 17,
                    before17 ? patches[i][1] : b.length);
            for (int j = i + 1; j < patches.length; j++) {
                Kit.broken("rules " + patches[i][0] + " and " + patches[j][0], patched(one, patches[j]),
                        patches[i][0], patches[i][1]);
            }
        }
    }

    private static byte[] patched(byte[] b, int[] patch) {
        return Kit.with(b, patch[2], Arrays.copyOfRange(patch, 3, patch.length));
    }
}
