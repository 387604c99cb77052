import java.util.Arrays;

/** The edges of term 7, COUNTERS, and of promise 30. */
public final class EdgeCountTest {
    public static void main(String[] args) {
        names();
        reachedAlone();
        jumpsAndRanges();
        atMost24Fields();
        namesThatAreThere();
        codeAndStack();
        pool();
        poolWithCatch();
        refusals();
        sixteenTimes();
        counts();
        Kit.finish("EdgeCountTest");
    }

    private static String counter(int k) {
        return "178 field:c" + k + ":J; 10; 97; 179 field:c" + k + ":J; ";
    }

    private static void counted(Kit.Klass before, Kit.Klass after) {
        CodeFoundry x = Kit.checked(before);
        Kit.due("count(0)", x.count(0), 1);
        Kit.due("verify(1)", x.verify(1), 0);
        byte[] got = Kit.written(x, 1);
        byte[] want = Kit.written(Kit.checked(after), 0);
        Kit.due("as told", Arrays.equals(got, want), true);
    }

    /** n blocks in a row, each a goto to the next one, with what stands before each. */
    private static String row(int n, boolean counters, int first) {
        StringBuilder code = new StringBuilder(counters ? counter(first) : "");
        for (int b = 1; b < n; b++) {
            code.append("167 @L").append(b).append("; L").append(b).append(": ");
            code.append(counters ? counter(first + b) : "");
        }
        return code + "177";
    }

    /** "a field c0, c1, .. J for each block of each method in order". */
    private static void names() {
        for (int n : new int[] {1, 2, 10, 11, 12, 20, 24}) {
            Kit.Klass after = new Kit.Klass();
            for (int k = 0; k < n; k++) {
                after.field("c" + k, "J");
            }
            counted(new Kit.Klass().method("m", "()V", 4, 0, row(n, false, 0)),
                    after.method("m", "()V", 4, 0, row(n, true, 0)));
        }
        // method by method, behind the fields that are there
        Kit.Klass before = new Kit.Klass().field("x", "I").field("d0", "[I");
        Kit.Klass after = new Kit.Klass().field("x", "I").field("d0", "[I");
        int[] blocks = {3, 1, 7, 2, 9};
        for (int k = 0; k < 22; k++) {
            after.field("c" + k, "J");
        }
        int first = 0;
        for (int m = 0; m < blocks.length; m++) {
            before.method("m" + m, "()V", 4, 0, row(blocks[m], false, 0));
            after.method("m" + m, "()V", 4, 0, row(blocks[m], true, first));
            first += blocks[m];
        }
        counted(before, after);
    }

    /** "(as graphs tell them, reached ones alone)". */
    private static void reachedAlone() {
        counted(new Kit.Klass().method("m", "()V", 4, 0, "177; 0; 177; a: 167 @a; 177")
                .method("n", "()V", 4, 0, "167 @a; 0; a: 177"),
                new Kit.Klass().field("c0", "J").field("c1", "J").field("c2", "J")
                .method("m", "()V", 4, 0, counter(0) + "177; 0; 177; a: 167 @a; 177")
                .method("n", "()V", 4, 0, counter(1) + "167 @a; 0; a: " + counter(2) + "177"));
        // reached by a catch alone
        counted(new Kit.Klass().method("m", "()V", 4, 0, "f: 0; t: 177; h: 87; 177", "f t h 0"),
                new Kit.Klass().field("c0", "J").field("c1", "J").field("c2", "J").method("m", "()V", 5, 0, "f: "
                        + counter(0) + "0; t: " + counter(1) + "177; h: " + counter(2) + "87; 177", "f t h 0"));
        // no methods, no fields
        CodeFoundry x = Kit.checked(new Kit.Klass());
        Kit.due("count(0)", x.count(0), 1);
        Kit.due("size(1, 0)", x.size(1, 0), 0);
    }

    /** "(jumps to the block come to these; ranges of catches have them where they have the block)". */
    private static void jumpsAndRanges() {
        counted(new Kit.Klass().method("m", "(I)V", 4, 1, "a: 26; 170 @a 0 @b @c; b: 26; 171 @a 1 @b 2 @c; c: 177"),
                new Kit.Klass().field("c0", "J").field("c1", "J").field("c2", "J").method("m", "(I)V", 4, 1, "a: "
                        + counter(0) + "26; 170 @a 0 @b @c; b: " + counter(1) + "26; 171 @a 1 @b 2 @c; c: " + counter(2)
                        + "177"));
        counted(new Kit.Klass().method("m", "(I)V", 4, 1, "a: 26; 153 @a; 26; 26; 159 @a; 1; 198 @a; 177"),
                new Kit.Klass().field("c0", "J").field("c1", "J").field("c2", "J").field("c3", "J").method("m", "(I)V", 4,
                        1, "a: " + counter(0) + "26; 153 @a; " + counter(1) + "26; 26; 159 @a; " + counter(2)
                        + "1; 198 @a; " + counter(3) + "177"));
        // FROM, TO and AT at blocks; TO at the end; AT in its own range; ranges whose blocks are not reached
        counted(new Kit.Klass().method("m", "(I)V", 4, 1, "0; f: 0; t: 0; 177; h: 191; e:", "f t h 0", "h e h NullError"),
                new Kit.Klass().field("c0", "J").field("c1", "J").field("c2", "J").field("c3", "J").method("m", "(I)V", 5,
                        1, counter(0) + "0; f: " + counter(1) + "0; t: " + counter(2) + "0; 177; h: " + counter(3)
                        + "191; e:", "f t h 0", "h e h NullError"));
        counted(new Kit.Klass().method("m", "(I)V", 4, 1, "177; f: 0; t: 0; 177; h: 191; e:", "f t h 0", "t e h 0"),
                new Kit.Klass().field("c0", "J").method("m", "(I)V", 5, 1, counter(0)
                        + "177; f: 0; t: 0; 177; h: 191; e:", "f t h 0", "t e h 0"));
        // method by method, with switches and catches in some of them
        Kit.Klass before = new Kit.Klass();
        Kit.Klass after = new Kit.Klass();
        for (int k = 0; k < 12; k++) {
            after.field("c" + k, "J");
        }
        String[] codes = {"26; 170 @b 0 @a; a: 0; b: 177", "f: 0; t: 177; h: 87; 177", "26; 171 @b 5 @a; a: 0; b: 177",
            "177", "26; 153 @a; a: 177"};
        String[] counted = {counter(0) + "26; 170 @b 0 @a; a: " + counter(1) + "0; b: " + counter(2) + "177",
            "f: " + counter(3) + "0; t: " + counter(4) + "177; h: " + counter(5) + "87; 177",
            counter(6) + "26; 171 @b 5 @a; a: " + counter(7) + "0; b: " + counter(8) + "177", counter(9) + "177",
            counter(10) + "26; 153 @a; a: " + counter(11) + "177"};
        for (int m = 0; m < codes.length; m++) {
            String[] catches = codes[m].startsWith("f:") ? new String[] {"f t h 0"} : new String[0];
            before.method("m" + m, "(I)V", 4, 1, codes[m], catches);
            after.method("m" + m, "(I)V", 5, 1, counted[m], catches);
        }
        counted(before, after);
        String[] handlers = new String[16];
        Arrays.fill(handlers, "f t f SizeError");
        counted(new Kit.Klass().method("m", "(I)V", 1, 1, "0; 167 @e; f: 191; t: 0; e: 177", handlers),
                new Kit.Klass().field("c0", "J").field("c1", "J").method("m", "(I)V", 4, 1, counter(0)
                        + "0; 167 @e; f: 191; t: 0; e: " + counter(1) + "177", handlers));
    }

    /** "Refused if a rule of 1 would be broken by it": at most 24 fields. */
    private static void atMost24Fields() {
        for (int fields = 0; fields <= 24; fields += 4) {
            for (int blocks = 22 - fields; blocks <= 26 - fields; blocks++) {
                if (blocks < 1) {
                    continue;
                }
                Kit.Klass k = new Kit.Klass();
                for (int f = 0; f < fields; f++) {
                    k.field("f" + f, "I");
                }
                CodeFoundry x = Kit.checked(k.method("m", "()V", 4, 0, row(blocks, false, 0)));
                boolean good = fields + blocks <= 24;
                Kit.due(fields + " and " + blocks, x.count(0), good ? 1 : -3);
                Kit.due("size(1, 0)", x.size(1, 0), good ? fields + blocks : -1);
            }
        }
        // far too many, by one method or by many
        Kit.due("400 blocks", Kit.checked(new Kit.Klass().method("m", "()V", 0, 0, row(400, false, 0))).count(0), -3);
        Kit.Klass many = new Kit.Klass();
        for (int m = 0; m < 24; m++) {
            many.method("m" + m, "()V", 0, 0, m == 0 ? "167 @a; a: 177" : "177");
        }
        Kit.due("25 in 24 methods", Kit.checked(many).count(0), -3);
    }

    /** A name that is there: refused if a counter would have it. */
    private static void namesThatAreThere() {
        for (int k = 0; k <= 12; k++) {
            for (int blocks : new int[] {k, k + 1}) {
                if (blocks > 0) {
                    CodeFoundry x = Kit.checked(new Kit.Klass().field("c" + k, "J").method("m", "()V", 4, 0,
                            row(blocks, false, 0)));
                    Kit.due("c" + k + " with " + blocks, x.count(0), blocks > k ? -3 : 1);
                }
            }
        }
        for (String name : new String[] {"c", "C0", "c00", "c-0", "c01", "cc0", "0", "Code", "J"}) {
            Kit.due(name, Kit.checked(new Kit.Klass().field(name, "I").method("m", "()V", 4, 0, "177")).count(0), 1);
        }
        Kit.due("a method's name", Kit.checked(new Kit.Klass().method("c0", "()V", 4, 0, "177")).count(0), 1);
        CodeFoundry x = Kit.checked(new Kit.Klass().method("m", "()V", 4, 0, "177"));
        Kit.due("count(0)", x.count(0), 1);
        Kit.due("verify(1)", x.verify(1), 0);
        Kit.due("once more", x.count(1), -3);
        Kit.due("but the first", x.count(0), 2);
    }

    /** At most 1200 bytes of code and 24 places of stack: a counter has 8 bytes and wants 4 places. */
    private static void codeAndStack() {
        for (int n = 1190; n <= 1194; n++) {
            CodeFoundry x = Kit.checked(new Kit.Klass().method("m", "()V", 0, 0, "0; ".repeat(n - 1) + "177"));
            Kit.due(n + " bytes", x.count(0), n + 8 <= 1200 ? 1 : -3);
        }
        for (int n = 0; n <= 24; n++) {
            Kit.Klass k = new Kit.Klass().method("m", "()V", 24, 0, "4; ".repeat(n) + "167 @a; a: 177");
            CodeFoundry x = Kit.checked(k);
            Kit.due(n + " places", x.count(0), n + 4 <= 24 ? 1 : -3);
        }
        for (int n = 0; n <= 24; n++) {
            // the first block begins with an empty stack
            CodeFoundry x = Kit.checked(new Kit.Klass().method("m", "()V", 24, 0, "4; ".repeat(n) + "177"));
            Kit.due(n + " places later", x.count(0), 1);
        }
        // switches are filled up anew
        for (int n = 0; n < 5; n++) {
            String nops = "0; ".repeat(n);
            counted(new Kit.Klass().method("m", "(I)V", 4, 1, nops + "26; 170 @a 0 @a; a: 177"),
                    new Kit.Klass().field("c0", "J").field("c1", "J").method("m", "(I)V", 4, 1, counter(0) + nops
                            + "26; 170 @a 0 @a; a: " + counter(1) + "177"));
        }
    }

    /** At most 500 numbers in the pool. */
    private static void pool() {
        for (int n = 483; n <= 487; n++) {
            Kit.Klass k = new Kit.Klass();
            int left = n;
            for (int m = 0; m < 2; m++) {
                StringBuilder code = new StringBuilder();
                for (int i = 0; i < 250 && left > 0; i++) {
                    code.append("19 int:").append(100000 + left).append("; 87; ");
                    left--;
                }
                k.method(m == 0 ? "a" : "J", "()V", 4, 0, code + "177");
            }
            CodeFoundry x = Kit.checked(k);
            // Code, two names, two classes, a, ()V, J; then c0, c1 and a PAIR and FIELD for each: 14 and n, and 1
            boolean good = 14 + n + 1 <= 500;
            Kit.due(n + " ints", x.count(0), good ? 1 : -3);
            Kit.due("size(1, 2)", x.size(1, 2), good ? 14 + n + 1 : -1);
            Kit.due("without counters", x.improve(0, 0), good ? 2 : 1);
        }
    }

    /** The same, where the CLASS of a catch comes last: it is not left out, nor is its number 0. */
    private static void poolWithCatch() {
        for (int n = 474; n <= 480; n++) {
            Kit.Klass k = new Kit.Klass();
            int left = n;
            for (int m = 0; m < 2; m++) {
                StringBuilder code = new StringBuilder();
                for (int i = 0; i < 250 && left > 0; i++) {
                    code.append("19 int:").append(100000 + left).append("; 87; ");
                    left--;
                }
                String[] handlers = m == 0 ? new String[0] : new String[] {"f t f SizeError"};
                k.method(m == 0 ? "a" : "J", "()V", 5, 0, m == 0 ? code + "177" : code + "1; f: 87; t: 177", handlers);
            }
            CodeFoundry x = Kit.checked(k);
            int blocks = x.blocks(0, 0) + x.blocks(0, 1);
            // Code, two names, two classes, a, ()V, J; a name, a PAIR and a FIELD for each counter; a NAME and a CLASS
            int numbers = 8 + 3 * blocks + n + 2 + 1;
            Kit.due(n + " ints and a CLASS", x.count(0), numbers <= 500 ? 1 : -3);
            Kit.due("size(1, 2)", x.size(1, 2), numbers <= 500 ? numbers : -1);
        }
    }

    /** "-1 if it was not checked without a fault; -2 there are 12 files; -3 refused". */
    private static void refusals() {
        CodeFoundry x = new CodeFoundry();
        for (int f : new int[] {-1, 0, 1, 12, Integer.MIN_VALUE, Integer.MAX_VALUE}) {
            Kit.due("count(" + f + ")", x.count(f), -1);
        }
        Kit.due("file()", Kit.file(x, new Kit.Klass().method("m", "()V", 0, 0, "177").bytes()), 0);
        Kit.due("file()", Kit.file(x, new Kit.Klass().method("m", "()V", 0, 0, "87; 177").bytes()), 1);
        Kit.due("file()", Kit.file(x, new Kit.Klass().field("c0", "J").method("m", "()V", 0, 0, "177").bytes()), 2);
        Kit.due("not checked", x.count(0), -1);
        Kit.due("verify(0)", x.verify(0), 0);
        Kit.due("verify(1)", x.verify(1), 1);
        Kit.due("verify(2)", x.verify(2), 0);
        Kit.due("with a fault", x.count(1), -1);
        Kit.due("c0 is there", x.count(2), -3);
        Kit.due("rule() is of file() alone", x.rule(), 0);
        for (int f = 3; f < 12; f++) {
            Kit.due("count(0)", x.count(0), f);
        }
        Kit.due("the thirteenth", x.count(0), -2);
        Kit.due("the thirteenth, that would be refused", x.count(2), -2);
        Kit.due("-1 before -2", x.count(1), -1);
        Kit.due("-1 before -2", x.count(11), -1);
        Kit.due("-1 before -2", x.count(12), -1);
    }

    /** "improve() and count() begin one 16 times at most, refused with -3 or not; then they answer -2". */
    private static void sixteenTimes() {
        for (int refused = 0; refused <= 16; refused++) {
            CodeFoundry x = Kit.checked(new Kit.Klass().field("c0", "J").method("m", "()V", 0, 0, "177"));
            int made = 0;
            for (int i = 0; i < 16; i++) {
                // what is refused with -1 or -2 begins none
                Kit.due("-1", x.count(99), -1);
                Kit.due("-1", x.improve(0, -1), -1);
                if (i < refused) {
                    Kit.due("begun " + i, x.count(0), -3);
                } else if (made < 11) {
                    made++;
                    Kit.due("begun " + i, x.improve(0, 0), made);
                } else {
                    Kit.due("twelve files", x.improve(0, 0), -2);
                }
            }
            Kit.due("the seventeenth", x.count(0), -2);
            Kit.due("the seventeenth", x.improve(0, 0), -2);
            Kit.due("not checked all the same", x.count(99), -1);
            Kit.due("no such rules all the same", x.improve(0, 2048), -1);
            Kit.due("file() goes on", Kit.file(x, new Kit.Klass().bytes()), made < 11 ? made + 1 : -2);
        }
    }

    /** What the counters tell: how often each block was begun, also in runs that end otherwise. */
    private static void counts() {
        CodeFoundry x = Kit.checked(new Kit.Klass().method("m", "(I)I", 2, 1,
                "26; 153 @z; 4; 26; 108; 172; z: 4; 26; 108; 172").method("loop", "()V", 0, 0, "a: 167 @a"));
        Kit.due("count(0)", x.count(0), 1);
        Kit.due("verify(1)", x.verify(1), 0);
        Kit.due("stage(1)", x.stage(1), true);
        x.argument(1);
        Kit.due("run", x.run(0, 100), 0);
        x.argument(0);
        Kit.due("run", x.run(0, 100), 1);
        Kit.due("run", x.run(1, 100), 2);
        long[] want = {2, 1, 1, 20, 0};
        for (int k = 0; k < want.length; k++) {
            Kit.due("field(" + k + ")", x.field(k), want[k]);
        }
        Kit.due("strays()", x.strays(), 0);
    }
}
