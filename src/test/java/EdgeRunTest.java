/** The edges of term 4, RUNNING, and of promises 16 to 24 and 31. */
public final class EdgeRunTest {
    private static final int LEAST = Integer.MIN_VALUE;
    private static final int MOST = Integer.MAX_VALUE;

    public static void main(String[] args) {
        wraps();
        leastByMinusOne();
        grows();
        shifts();
        switches();
        divideErrors();
        nullErrors();
        indexErrors();
        sizeErrors();
        firstCatch();
        outOfMethods();
        steps();
        fuel();
        sixtyMethods();
        elements();
        arrays();
        whatStays();
        stages();
        arguments();
        eightArrays();
        refusedRuns();
        results();
        answersOfTheStage();
        fullFrames();
        Kit.finish("EdgeRunTest");
    }

    private static Kit.Klass klass(String type, int stack, int locals, String code, String... handlers) {
        return new Kit.Klass().field("i", "I").field("l", "J").field("a", "[I")
                .method("m", type, stack, locals, code, handlers);
    }

    private static void run(CodeFoundry x, int m, int outcome, long result, long... arguments) {
        for (long v : arguments) {
            x.argument(v);
        }
        Kit.due("run(" + m + ", 50000)", x.run(m, 50000), outcome);
        Kit.due("result()", x.result(), result);
        Kit.due("strays()", x.strays(), 0);
    }

    private static void ends(CodeFoundry x, int m, int error, int steps, long... arguments) {
        run(x, m, 1, 0, arguments);
        Kit.due("error()", x.error(), error);
        Kit.due("steps()", x.steps(), steps);
    }

    private static void binary(int op, boolean wide, long a, long b, long want) {
        CodeFoundry x = Kit.staged(wide ? klass("(JJ)J", 4, 4, "30; 32; " + op + "; 173")
                : klass("(II)I", 2, 2, "26; 27; " + op + "; 172"));
        run(x, 0, 0, want, a, b);
    }

    private static void unary(int op, String type, long a, long want) {
        String load = type.startsWith("(J") ? "30; " : "26; ";
        CodeFoundry x = Kit.staged(klass(type, 2, 2, load + op + (type.endsWith("J") ? "; 173" : "; 172")));
        run(x, 0, 0, want, a);
    }

    /** "All wraps as ints and longs do". */
    private static void wraps() {
        binary(96, false, MOST, 1, LEAST);
        binary(96, false, LEAST, -1, MOST);
        binary(100, false, LEAST, 1, MOST);
        binary(100, false, MOST, -1, LEAST);
        binary(100, false, 0, LEAST, LEAST);
        binary(104, false, MOST, 2, -2);
        binary(104, false, LEAST, -1, LEAST);
        binary(104, false, 65536, 65536, 0);
        binary(104, false, 46341, 46341, 46341 * 46341);
        binary(97, true, Long.MAX_VALUE, 1, Long.MIN_VALUE);
        binary(97, true, Long.MIN_VALUE, -1, Long.MAX_VALUE);
        binary(101, true, Long.MIN_VALUE, 1, Long.MAX_VALUE);
        binary(101, true, 0, Long.MIN_VALUE, Long.MIN_VALUE);
        binary(105, true, Long.MAX_VALUE, 2, -2);
        binary(105, true, Long.MIN_VALUE, -1, Long.MIN_VALUE);
        binary(105, true, 1L << 32, 1L << 32, 0);
        unary(116, "(I)I", LEAST, LEAST);
        unary(116, "(I)I", MOST, -MOST);
        unary(117, "(J)J", Long.MIN_VALUE, Long.MIN_VALUE);
        unary(133, "(I)J", LEAST, LEAST);
        unary(133, "(I)J", MOST, MOST);
        unary(136, "(J)I", 1L << 31, LEAST);
        unary(136, "(J)I", (1L << 31) - 1, MOST);
        unary(136, "(J)I", 1L << 32, 0);
        unary(136, "(J)I", -1L << 32 | 7, 7);
        unary(136, "(J)I", Long.MIN_VALUE, 0);
        unary(136, "(J)I", Long.MAX_VALUE, -1);
        long[][] cuts = {{127, 127, 127, 127}, {128, -128, 128, 128}, {255, -1, 255, 255}, {256, 0, 256, 256},
            {32767, -1, 32767, 32767}, {32768, 0, 32768, -32768}, {65535, -1, 65535, -1}, {65536, 0, 0, 0},
            {-1, -1, 65535, -1}, {-128, -128, 65408, -128}, {-129, 127, 65407, -129}, {-32768, 0, 32768, -32768},
            {-32769, -1, 32767, 32767}, {LEAST, 0, 0, 0}, {MOST, -1, 65535, -1}};
        for (long[] c : cuts) {
            unary(145, "(I)I", c[0], c[1]);
            unary(146, "(I)I", c[0], c[2]);
            unary(147, "(I)I", c[0], c[3]);
        }
        CodeFoundry x = Kit.staged(klass("(JJ)I", 4, 4, "30; 32; 148; 172"));
        long[][] compared = {{0, 0, 0}, {0, 1, -1}, {1, 0, 1}, {Long.MIN_VALUE, Long.MAX_VALUE, -1},
            {Long.MAX_VALUE, Long.MIN_VALUE, 1}, {-1, 0, -1}, {1L << 32, 0, 1}, {Long.MIN_VALUE, Long.MIN_VALUE, 0}};
        for (long[] c : compared) {
            run(x, 0, 0, c[2], c[0], c[1]);
        }
    }

    /** "LEAST / -1 is itself, rem 0". */
    private static void leastByMinusOne() {
        binary(108, false, LEAST, -1, LEAST);
        binary(112, false, LEAST, -1, 0);
        binary(109, true, Long.MIN_VALUE, -1, Long.MIN_VALUE);
        binary(113, true, Long.MIN_VALUE, -1, 0);
        binary(108, false, LEAST + 1, -1, MOST);
        binary(109, true, LEAST, -1, 1L << 31);
        int[][] ints = {{7, 2, 3, 1}, {-7, 2, -3, -1}, {7, -2, -3, 1}, {-7, -2, 3, -1}, {0, 5, 0, 0}, {LEAST, 1, LEAST, 0},
            {LEAST, 2, LEAST / 2, 0}, {MOST, MOST, 1, 0}, {1, LEAST, 0, 1}, {5, 1, 5, 0}};
        for (int[] v : ints) {
            binary(108, false, v[0], v[1], v[2]);
            binary(112, false, v[0], v[1], v[3]);
            binary(109, true, v[0], v[1], v[2]);
            binary(113, true, v[0], v[1], v[3]);
        }
    }

    /** "132 k s: local k, an int, grows by s". */
    private static void grows() {
        for (int s : new int[] {-128, -1, 0, 1, 127}) {
            CodeFoundry x = Kit.staged(klass("(I)I", 1, 1, "132 0 " + s + "; 26; 172"));
            run(x, 0, 0, MOST + s, MOST);
            run(x, 0, 0, LEAST + s, LEAST);
            run(x, 0, 0, s, 0);
        }
        for (int s : new int[] {-32768, -129, -128, 0, 127, 128, 32767}) {
            CodeFoundry x = Kit.staged(klass("(I)I", 1, 24, "26; 54 23; 196 132 23 " + s + "; 21 23; 172"));
            run(x, 0, 0, MOST + s, MOST);
            run(x, 0, 0, LEAST + s, LEAST);
        }
    }

    private static void shifts() {
        CodeFoundry x = Kit.staged(klass("(II)I", 2, 2, "26; 27; 120; 172")
                .method("b", "(II)I", 2, 2, "26; 27; 122; 172").method("c", "(II)I", 2, 2, "26; 27; 124; 172")
                .method("d", "(JI)J", 3, 3, "30; 28; 121; 173").method("e", "(JI)J", 3, 3, "30; 28; 123; 173")
                .method("f", "(JI)J", 3, 3, "30; 28; 125; 173"));
        for (int n : new int[] {0, 1, 31, 32, 33, 63, 64, 65, -1, -32, LEAST, MOST}) {
            int v = 0x87654321;
            long w = 0x8765432112345678L;
            run(x, 0, 0, v << n, v, n);
            run(x, 1, 0, v >> n, v, n);
            run(x, 2, 0, v >>> n, v, n);
            run(x, 3, 0, w << n, w, n);
            run(x, 4, 0, w >> n, w, n);
            run(x, 5, 0, w >>> n, w, n);
        }
    }

    /** 170 and 171 at the ends of the ints and of their ranges. */
    private static void switches() {
        CodeFoundry x = Kit.staged(klass("(I)I", 1, 1, "26; 170 @d -2147483648 @a @b; a: 4; 172; b: 5; 172; d: 3; 172")
                .method("h", "(I)I", 1, 1, "26; 170 @d 2147483646 @a @b; a: 4; 172; b: 5; 172; d: 3; 172")
                .method("o", "(I)I", 1, 1, "26; 170 @d 7 @a; a: 4; 172; d: 3; 172")
                .method("l", "(I)I", 1, 1, "26; 171 @d -2147483648 @a 2147483647 @b; a: 4; 172; b: 5; 172; d: 3; 172")
                .method("n", "(I)I", 1, 1, "26; 171 @d; 0; d: 3; 172"));
        int[] values = {LEAST, LEAST + 1, LEAST + 2, -1, 0, 6, 7, 8, MOST - 2, MOST - 1, MOST};
        int[][] want = {{1, 2, 0, 0, 0, 0, 0, 0, 0, 0, 0}, {0, 0, 0, 0, 0, 0, 0, 0, 0, 1, 2},
            {0, 0, 0, 0, 0, 0, 1, 0, 0, 0, 0}, {1, 0, 0, 0, 0, 0, 0, 0, 0, 0, 2}, {0, 0, 0, 0, 0, 0, 0, 0, 0, 0, 0}};
        for (int m = 0; m < want.length; m++) {
            for (int i = 0; i < values.length; i++) {
                run(x, m, 0, want[m][i], values[i]);
            }
        }
        // numbers that are also places of instructions: of the targets, of the default, of the switch
        CodeFoundry z = Kit.staged(klass("(I)I", 1, 1, "26; 171 @d 0 @a 1 @b 2 @c 4 @a 6 @b 8 @c; d: 3; 172; a: 4; 172; "
                + "b: 5; 172; c: 6; 172"));
        int[] numbers = {0, 1, 1, 2, 2, 3, 3, 0, 4, 1, 5, 0, 6, 2, 7, 0, 8, 3, 9, 0};
        for (int i = 0; i < numbers.length; i += 2) {
            run(z, 0, 0, numbers[i + 1], numbers[i]);
        }
        StringBuilder table = new StringBuilder("26; 170 @d -100");
        for (int i = 0; i <= 200; i++) {
            table.append(i % 2 == 0 ? " @a" : " @b");
        }
        CodeFoundry y = Kit.staged(klass("(I)I", 1, 1, table + "; a: 4; 172; b: 5; 172; d: 3; 172"));
        run(y, 0, 0, 0, -101);
        run(y, 0, 0, 1, -100);
        run(y, 0, 0, 2, -99);
        run(y, 0, 0, 2, 99);
        run(y, 0, 0, 1, 100);
        run(y, 0, 0, 0, 101);
    }

    /** "div and rem by 0: DivideError". */
    private static void divideErrors() {
        CodeFoundry x = Kit.staged(klass("(II)I", 2, 2, "26; 27; 108; 172")
                .method("b", "(II)I", 2, 2, "26; 27; 112; 172").method("c", "(JJ)J", 4, 4, "30; 32; 109; 173")
                .method("d", "(JJ)J", 4, 4, "30; 32; 113; 173"));
        for (int m = 0; m < 4; m++) {
            for (long v : new long[] {0, 1, -1, LEAST}) {
                ends(x, m, 0, 3, v, 0);
            }
        }
        // the lowest 32 bits of the argument are 0
        ends(x, 0, 0, 3, 5, 1L << 32);
        run(x, 2, 0, 0, 5, 1L << 32);
    }

    /** "a null where ints or an error are wanted: NullError". */
    private static void nullErrors() {
        CodeFoundry x = Kit.staged(klass("([II)I", 2, 2, "42; 27; 46; 172")
                .method("b", "([II)V", 3, 2, "42; 27; 4; 79; 177").method("c", "([I)I", 1, 1, "42; 190; 172")
                .method("d", "()V", 1, 0, "1; 191").method("e", "([I)I", 1, 1, "42; 198 @a; 3; 172; a: 4; 172")
                .method("f", "([I)[I", 1, 1, "42; 179 field:a:[I; 178 field:a:[I; 176"));
        // before the index is looked at
        for (int i : new int[] {0, -1, MOST}) {
            ends(x, 0, 1, 3, 0, i);
            ends(x, 1, 1, 4, 0, i);
        }
        ends(x, 2, 1, 2, 0);
        ends(x, 3, 1, 2);
        // where none is wanted a null is no error
        run(x, 4, 0, 1, 0);
        run(x, 5, 0, 0, 0);
    }

    /** "an index: IndexError". */
    private static void indexErrors() {
        CodeFoundry x = Kit.staged(klass("([II)I", 2, 2, "42; 27; 46; 172")
                .method("b", "([III)V", 3, 3, "42; 27; 28; 79; 177").method("c", "(I)[I", 1, 1, "26; 188 10; 176"));
        run(x, 2, 0, 1, 3);
        run(x, 2, 0, 2, 0);
        run(x, 2, 0, 3, 1);
        for (int i : new int[] {LEAST, -1, 3, 4, MOST}) {
            ends(x, 0, 2, 3, 1, i);
            ends(x, 1, 2, 4, 1, i, 9);
        }
        for (int i = 0; i < 3; i++) {
            run(x, 1, 0, 0, 1, i, LEAST + i);
            run(x, 0, 0, LEAST + i, 1, i);
        }
        for (int i : new int[] {-1, 0, 1}) {
            ends(x, 0, 2, 3, 2, i);
        }
        run(x, 0, 0, 0, 3, 0);
        ends(x, 0, 2, 3, 3, 1);
        // what stands in the arrays beside it is not touched
        Kit.due("element(3, 0)", x.element(3, 0), 0);
        Kit.due("element(1, 2)", x.element(1, 2), LEAST + 2);
    }

    /** "new ints with a length below 0: SizeError". */
    private static void sizeErrors() {
        CodeFoundry x = Kit.staged(klass("(I)[I", 1, 1, "26; 188 10; 176"));
        ends(x, 0, 3, 2, -1);
        ends(x, 0, 3, 2, LEAST);
        Kit.due("no array", x.arrayLength(1), -1);
        run(x, 0, 0, 1, 0);
        Kit.due("arrayLength(1)", x.arrayLength(1), 0);
        ends(x, 0, 3, 2, 1L << 31);
        run(x, 0, 0, 2, 1L << 32);
        Kit.due("arrayLength(2)", x.arrayLength(2), 0);
    }

    private static String raise(int error) {
        return new String[] {"4; 3; 108; 87; ", "1; 190; 87; ", "3; 188 10; 3; 46; 87; ", "2; 188 10; 87; "}[error];
    }

    /** "An error goes to the first catch of the method that has the instruction and its name (or 0)". */
    private static void firstCatch() {
        String[] names = {"DivideError", "NullError", "IndexError", "SizeError"};
        for (int error = 0; error < 4; error++) {
            for (int name = 0; name < 4; name++) {
                String code = "a: " + raise(error) + "b: 3; 172; h: 87; 4; 172; g: 87; 5; 172";
                CodeFoundry x = Kit.staged(klass("()I", 4, 0, code, "a b h " + names[name], "a b g 0"));
                run(x, 0, 0, name == error ? 1 : 2);
                Kit.due("error()", x.error(), -1);
                x = Kit.staged(klass("()I", 4, 0, code, "a b g 0", "a b h " + names[name]));
                run(x, 0, 0, 2);
                x = Kit.staged(klass("()I", 4, 0, code, "a b h " + names[name]));
                run(x, 0, name == error ? 0 : 1, name == error ? 1 : 0);
                Kit.due("error()", x.error(), name == error ? -1 : error);
                x = Kit.staged(klass("()I", 4, 0, code, "a b h " + names[name], "a b g " + names[name]));
                run(x, 0, name == error ? 0 : 1, name == error ? 1 : 0);
            }
        }
        // the range has its first one, and not TO
        String code = "p: 4; q: 3; r: 108; s: 172; h: 87; 5; 172";
        String[] ranges = {"p r h 0", "q r h 0", "r s h 0", "p s h 0", "s h h 0", "q s h 0"};
        boolean[] has = {false, false, true, true, false, true};
        for (int i = 0; i < ranges.length; i++) {
            CodeFoundry x = Kit.staged(klass("()I", 2, 0, code, ranges[i]));
            run(x, 0, has[i] ? 0 : 1, has[i] ? 2 : 0);
        }
        // AT may stand before its range, and at the first instruction; the error is thrown again
        CodeFoundry x = Kit.staged(klass("()I", 2, 1, "167 @a; h: 87; 6; 172; a: 4; 3; 108; b: 172", "a b h 0"));
        run(x, 0, 0, 3);
        x = Kit.staged(klass("()I", 2, 1, "167 @a; h: 191; i: 87; 7; 172; a: 4; 3; 108; b: 172", "a b h 0",
                "h i i DivideError"));
        run(x, 0, 0, 4);
        // the error that was caught is thrown on by its own name
        for (int error = 0; error < 4; error++) {
            x = Kit.staged(klass("()I", 4, 1, "a: " + raise(error) + "b: 3; 172; h: 58 0; 25 0; 191", "a b h 0"));
            run(x, 0, 1, 0);
            Kit.due("error()", x.error(), error);
        }
        // a handler that has itself catches what it throws till there is no fuel
        x = Kit.staged(klass("()V", 1, 0, "a: 1; 191; h: 191; e:", "a e h 0"));
        run(x, 0, 2, 0);
        Kit.due("steps()", x.steps(), 50000);
        // an error is no null, and the same as itself
        x = Kit.staged(klass("()I", 3, 1, "a: 1; 191; h: 75; 42; 198 @n; 42; 42; 165 @s; n: 2; 172; s: 4; 172", "a h h 0"));
        run(x, 0, 0, 1);
        // AT is the first instruction of the method
        x = Kit.staged(klass("()V", 2, 0, "0; 177").method("h", "(I)I", 2, 1,
                "167 @b; h: 87; 8; 172; b: 4; 26; 108; 172; e:", "b e h 0"));
        run(x, 1, 0, 5, 0);
        run(x, 1, 0, 1, 1);
    }

    /** "else out of the method": to the calls, one after the other. */
    private static void outOfMethods() {
        Kit.Klass k = klass("(I)I", 2, 1, "4; 26; 108; 172")
                .method("b", "(I)I", 3, 1, "6; 26; 184 call:m:(I)I; 96; 172")
                .method("c", "(I)I", 3, 1, "5; a: 26; 184 call:b:(I)I; b: 96; 172; h: 87; 16 50; 172; e:",
                        "a b h DivideError")
                .method("d", "(I)I", 3, 1, "5; a: 26; 184 call:b:(I)I; b: 96; 172; h: 87; 16 51; 172; e:",
                        "a b h NullError")
                .method("e", "(I)I", 3, 1, "5; a: 26; b: 184 call:b:(I)I; c: 96; 172; h: 87; 16 52; 172; e:", "a b h 0",
                        "c e h 0");
        CodeFoundry x = Kit.staged(k);
        ends(x, 1, 0, 6, 0);
        run(x, 2, 0, 50, 0);
        Kit.due("steps()", x.steps(), 3 + 3 + 3 + 3);
        Kit.due("error()", x.error(), -1);
        ends(x, 3, 0, 9, 0);
        ends(x, 4, 0, 9, 0);
        run(x, 2, 0, 2 + 3 + 1, 1);
    }

    /** "Each instruction begun is a STEP": also the one that ends the run. */
    private static void steps() {
        CodeFoundry x = Kit.staged(klass("()V", 0, 0, "177").method("b", "()I", 2, 0, "4; 3; 108; 172")
                .method("c", "()V", 0, 0, "184 call:m:()V; 184 call:m:()V; 177")
                .method("d", "()V", 2, 0, "3; 171 @a; a: 0; 177"));
        run(x, 0, 0, 0);
        Kit.due("one", x.steps(), 1);
        run(x, 1, 1, 0);
        Kit.due("three", x.steps(), 3);
        run(x, 2, 0, 0);
        Kit.due("five", x.steps(), 5);
        run(x, 3, 0, 0);
        Kit.due("four", x.steps(), 4);
    }

    /** "2 no fuel for the next step"; "-3 fuel is not 0 .. 50000". */
    private static void fuel() {
        CodeFoundry x = Kit.staged(klass("()I", 2, 0, "4; 5; 96; 172").method("b", "()V", 2, 0, "a: 167 @a")
                .method("c", "()I", 2, 0, "4; 3; 108; 172"));
        for (int fuel = 0; fuel <= 6; fuel++) {
            Kit.due("run(0, " + fuel + ")", x.run(0, fuel), fuel < 4 ? 2 : 0);
            Kit.due("steps()", x.steps(), Math.min(fuel, 4));
            Kit.due("result()", x.result(), fuel < 4 ? 0 : 3);
            Kit.due("error()", x.error(), -1);
            Kit.due("run(2, " + fuel + ")", x.run(2, fuel), fuel < 3 ? 2 : 1);
            Kit.due("error()", x.error(), fuel < 3 ? -1 : 0);
        }
        for (int fuel : new int[] {49999, 50000}) {
            Kit.due("run(1, " + fuel + ")", x.run(1, fuel), 2);
            Kit.due("steps()", x.steps(), fuel);
        }
        for (int fuel : new int[] {-1, 50001, LEAST, MOST}) {
            Kit.due("run(1, " + fuel + ")", x.run(1, fuel), -3);
        }
        // just as much fuel as 50000 steps need
        CodeFoundry y = Kit.staged(klass("(I)V", 2, 1, "a: 132 0 -1; 26; 154 @a; 177"));
        y.argument(16666);
        Kit.due("run", y.run(0, 49999), 0);
        Kit.due("steps()", y.steps(), 49999);
        y.argument(16667);
        Kit.due("run", y.run(0, 50000), 2);
        y.argument(16666);
        Kit.due("run", y.run(0, 49998), 2);
        Kit.due("steps()", y.steps(), 49998);
    }

    /** "3 more than 60 methods would run in one another". */
    private static void sixtyMethods() {
        CodeFoundry x = Kit.staged(klass("(I)I", 3, 1, "26; 154 @a; 3; 172; a: 26; 4; 100; 184 call:m:(I)I; 4; 96; 172")
                .method("b", "(I)I", 3, 1, "a: 26; 184 call:m:(I)I; 172; h: 87; 2; 172; e:", "a e h 0")
                .method("c", "(I)V", 2, 1, "a: 26; 184 call:m:(I)I; 87; 26; 184 call:m:(I)I; 87; 177"));
        run(x, 0, 0, 58, 58);
        run(x, 0, 0, 59, 59);
        run(x, 0, 3, 0, 60);
        Kit.due("error()", x.error(), -1);
        Kit.due("steps()", x.steps(), 60 * 6);
        run(x, 0, 3, 0, 61);
        Kit.due("steps()", x.steps(), 60 * 6);
        // no error: no catch has it; one method stands before the others
        run(x, 1, 0, 58, 58);
        run(x, 1, 3, 0, 59);
        // in one another, not one behind the other
        run(x, 2, 0, 0, 58);
        // the run behind it begins anew
        run(x, 0, 0, 59, 59);
    }

    /** "4 an array would make more than 20000 elements .. on this stage (the instruction does nothing then)". */
    private static void elements() {
        Kit.Klass k = klass("(I)[I", 1, 1, "a: 26; 188 10; 176; h: 87; 1; 176; e:", "a h h 0");
        CodeFoundry x = Kit.staged(k);
        run(x, 0, 4, 0, 20001);
        Kit.due("error()", x.error(), -1);
        Kit.due("steps()", x.steps(), 2);
        Kit.due("nothing was made", x.arrayLength(1), -1);
        run(x, 0, 4, 0, MOST);
        run(x, 0, 0, 1, 20000);
        Kit.due("arrayLength(1)", x.arrayLength(1), 20000);
        Kit.due("element(1, 19999)", x.element(1, 19999), 0);
        run(x, 0, 4, 0, 1);
        run(x, 0, 0, 2, 0);
        run(x, 0, 4, 0, 1);
        run(x, 0, 4, 0, MOST);
        // a length below 0 is a SizeError all the same, and caught
        run(x, 0, 0, 0, -1);
        Kit.due("stage(0)", x.stage(0), true);
        run(x, 0, 0, 1, 12000);
        run(x, 0, 4, 0, 8001);
        run(x, 0, 0, 2, 8000);
        run(x, 0, 4, 0, 1);
        Kit.due("arrayLength(2)", x.arrayLength(2), 8000);
        Kit.due("arrayLength(3)", x.arrayLength(3), -1);
    }

    /** "or more than 400 arrays". */
    private static void arrays() {
        CodeFoundry x = Kit.staged(klass("(I)V", 2, 1, "a: 26; 158 @e; 3; 188 10; 87; 132 0 -1; 167 @a; e: 177")
                .method("b", "(I)[I", 1, 1, "26; 188 10; 176"));
        run(x, 0, 0, 0, 399);
        Kit.due("399", x.arrayLength(399), 0);
        Kit.due("400", x.arrayLength(400), -1);
        run(x, 1, 0, 400, 7);
        Kit.due("400", x.arrayLength(400), 7);
        run(x, 1, 4, 0, 0);
        run(x, 1, 4, 0, 7);
        Kit.due("401", x.arrayLength(401), -1);
        // no array would be made: an error
        ends(x, 1, 3, 2, -1);
        Kit.due("stage(0)", x.stage(0), true);
        run(x, 0, 4, 0, 401);
        Kit.due("400", x.arrayLength(400), 0);
        Kit.due("stage(0)", x.stage(0), true);
        run(x, 0, 0, 0, 400);
    }

    /** "fields .. arrays; both stay from run to run": whatever the run's end. */
    private static void whatStays() {
        Kit.Klass k = new Kit.Klass().field("i", "I").field("a", "[I")
                .method("zero", "()V", 3, 0, set(1) + "177").method("one", "()V", 3, 0, set(2) + "4; 3; 108; 87; 177")
                .method("two", "()V", 3, 0, set(3) + "a: 167 @a")
                .method("three", "()V", 3, 0, set(4) + "a: 184 call:deep:()V; 177")
                .method("four", "()V", 3, 0, set(5) + "19 int:20001; 188 10; 87; 177")
                .method("deep", "()V", 0, 0, "184 call:deep:()V; 177")
                .method("get", "()I", 2, 0, "178 field:a:[I; 3; 46; 172");
        CodeFoundry x = Kit.staged(k);
        for (int m = 0; m < 5; m++) {
            Kit.due("run(" + m + ")", x.run(m, 1000), m);
            Kit.due("field(0)", x.field(0), m + 1);
            Kit.due("field(1)", x.field(1), m + 1);
            Kit.due("element", x.element(m + 1, 0), -m - 1);
            Kit.due("arrayLength", x.arrayLength(m + 1), m + 1);
            run(x, 6, 0, -m - 1);
        }
        Kit.due("stage(1)", x.stage(1), false);
        Kit.due("field(0) stays", x.field(0), 5);
        Kit.due("arrayLength stays", x.arrayLength(5), 5);
        Kit.due("stage(0)", x.stage(0), true);
        for (int i = 0; i < 3; i++) {
            Kit.due("field " + i, x.field(i), 0);
            Kit.due("array " + i, x.arrayLength(i), -1);
            Kit.due("element " + i, x.element(i, 0), 0);
        }
        ends(x, 6, 1, 3);
    }

    /** Sets the field to v, and makes an array of v elements whose first is -v. */
    private static String set(int v) {
        return "16 " + v + "; 179 field:i:I; 16 " + v + "; 188 10; 179 field:a:[I; 178 field:a:[I; 3; 16 " + -v
                + "; 79; ";
    }

    /** Promise 16: "A file that was checked without a fault comes on the stage: true; false (all stays)". */
    private static void stages() {
        CodeFoundry x = new CodeFoundry();
        for (int f : new int[] {-1, 0, 1, 12, LEAST, MOST}) {
            Kit.due("stage(" + f + ")", x.stage(f), false);
        }
        Kit.due("file()", Kit.file(x, klass("()I", 1, 0, "4; 179 field:i:I; 4; 172").bytes()), 0);
        Kit.due("file()", Kit.file(x, klass("()I", 1, 0, "87; 4; 172").bytes()), 1);
        Kit.due("file()", Kit.file(x, klass("()I", 1, 0, "5; 172").bytes()), 2);
        Kit.due("not checked", x.stage(0), false);
        Kit.due("nothing on the stage", x.run(0, 10), -1);
        Kit.due("verify(0)", x.verify(0), 0);
        Kit.due("verify(1)", x.verify(1), 1);
        Kit.due("with a fault", x.stage(1), false);
        Kit.due("nothing on the stage", x.run(0, 10), -1);
        Kit.due("stage(0)", x.stage(0), true);
        run(x, 0, 0, 1);
        Kit.due("field(0)", x.field(0), 1);
        Kit.due("with a fault", x.stage(1), false);
        Kit.due("not checked", x.stage(2), false);
        Kit.due("no such file", x.stage(3), false);
        Kit.due("all stays", x.field(0), 1);
        run(x, 0, 0, 1);
        Kit.due("verify(2)", x.verify(2), 0);
        Kit.due("still the first", x.field(0), 1);
        Kit.due("stage(2)", x.stage(2), true);
        Kit.due("field(0)", x.field(0), 0);
        Kit.due("the latest run stays", x.result(), 1);
        Kit.due("the latest run stays", x.steps(), 4);
        run(x, 0, 0, 2);
        // arguments do not go with the stage
        Kit.Klass one = klass("(I)I", 1, 1, "26; 172");
        CodeFoundry y = Kit.staged(one);
        Kit.due("argument", y.argument(77), 1);
        Kit.due("stage(0)", y.stage(0), true);
        Kit.due("stage(1)", y.stage(1), false);
        Kit.due("run", y.run(0, 10), 0);
        Kit.due("result()", y.result(), 77);
    }

    /** Promise 17: "how many there are; -1 if there are 8"; an int is the lowest 32 bits of one. */
    private static void arguments() {
        CodeFoundry x = Kit.staged(klass("(IIIIIIII)I", 2, 8, "26; 27; 100; 28; 100; 29; 100; 21 4; 100; 21 5; 100; "
                + "21 6; 100; 21 7; 100; 172").method("l", "(JJJJ)J", 4, 8, "30; 32; 101; 22 4; 101; 22 6; 101; 173")
                .method("i", "(I)J", 2, 1, "26; 133; 173").method("a", "([I)[I", 1, 1, "42; 176")
                .method("n", "(I)[I", 1, 1, "26; 188 10; 176").method("z", "()V", 0, 0, "177")
                .method("mix", "(I[IJ)J", 4, 4, "26; 133; 32; 97; 173"));
        for (int n = 1; n <= 8; n++) {
            Kit.due("argument", x.argument(1L << 4 * n), n);
        }
        Kit.due("the ninth", x.argument(5), -1);
        Kit.due("the tenth", x.argument(5), -1);
        Kit.due("run", x.run(0, 100), 0);
        Kit.due("the first eight", x.result(), 16 - 256 - 4096 - 65536 - (1 << 20) - (1 << 24) - (1 << 28));
        Kit.due("used up", x.argument(1), 1);
        Kit.due("one for none", x.run(5, 10), -2);
        Kit.due("none left", x.run(5, 10), 0);
        run(x, 1, 0, 4 - 3 - 2 - (1L << 40), 4, 3, 2, 1L << 40);
        run(x, 2, 0, LEAST, 1L << 31);
        run(x, 2, 0, -1, 0xffffffffL);
        run(x, 2, 0, MOST, -1L << 32 | MOST);
        run(x, 2, 0, 0, Long.MIN_VALUE);
        run(x, 2, 0, -1, Long.MAX_VALUE);
        run(x, 6, 0, (1L << 40) + 3, 3, 0, 1L << 40);
        for (int n = 0; n <= 9; n++) {
            for (int i = 0; i < n; i++) {
                x.argument(1);
            }
            Kit.due(n + " for eight", x.run(0, 100), n >= 8 ? 0 : -2);
            for (int i = 0; i < n; i++) {
                x.argument(1);
            }
            Kit.due(n + " for four", x.run(1, 100), n == 4 ? 0 : -2);
        }
    }

    /** Eight arguments for ints, each of them looked at. */
    private static void eightArrays() {
        CodeFoundry x = Kit.staged(klass("([I[I[I[I[I[I[I[I)[I", 1, 8, "25 7; 176").method("n", "()[I", 1, 0,
                "3; 188 10; 176").method("first", "([IIIIIIII)[I", 1, 8, "42; 176"));
        run(x, 1, 0, 1);
        run(x, 0, 0, 1, 0, 0, 0, 0, 0, 0, 0, 1);
        run(x, 0, 0, 0, 1, 1, 1, 1, 1, 1, 1, 0);
        run(x, 2, 0, 1, 1, 9, 9, 9, 9, 9, 9, 9);
        for (int wrong = 0; wrong < 8; wrong++) {
            for (int k = 0; k < 8; k++) {
                x.argument(k == wrong ? 2 : 1);
            }
            Kit.due("argument " + wrong + " is no array", x.run(0, 10), -2);
        }
    }

    /** Promise 18: "-1 .. -2 .. -3", in this order; "the arguments, used up whatever it answers". */
    private static void refusedRuns() {
        CodeFoundry x = new CodeFoundry();
        x.argument(1);
        Kit.due("nothing on the stage", x.run(0, 0), -1);
        Kit.due("used up", x.argument(1), 1);
        Kit.due("nothing on the stage, and fuel", x.run(0, -1), -1);
        Kit.due("file()", Kit.file(x, klass("([I)[I", 1, 1, "42; 176").method("n", "(I)[I", 1, 1, "26; 188 10; 176")
                .bytes()), 0);
        Kit.due("verify(0)", x.verify(0), 0);
        Kit.due("stage(0)", x.stage(0), true);
        for (int m : new int[] {-1, 2, LEAST, MOST}) {
            x.argument(3);
            Kit.due("no method " + m, x.run(m, 10), -1);
            Kit.due("used up", x.argument(3), 1);
            Kit.due("no method, and fuel", x.run(m, 50001), -1);
        }
        Kit.due("too few", x.run(0, 10), -2);
        Kit.due("too few, and fuel", x.run(0, -1), -2);
        x.argument(0);
        x.argument(0);
        Kit.due("too many", x.run(0, 10), -2);
        run(x, 0, 0, 0, 0);
        for (int made = 0; made <= 2; made++) {
            for (long v : new long[] {-1, 0, 1, 2, 3, 400, 401, 1L << 32, (1L << 32) + 1, LEAST, Long.MIN_VALUE}) {
                boolean good = v >= 0 && v <= made;
                x.argument(v);
                Kit.due(v + " of " + made, x.run(0, 10), good ? 0 : -2);
                Kit.due("used up", x.argument(0), 1);
                Kit.due("run", x.run(0, 10), 0);
            }
            run(x, 1, 0, made + 1, made);
        }
        x.argument(9);
        Kit.due("no such array, and fuel", x.run(0, -1), -2);
        x.argument(1);
        Kit.due("fuel", x.run(0, -1), -3);
        Kit.due("used up", x.argument(1), 1);
        Kit.due("run", x.run(0, 2), 0);
        // a refused run is none: the latest one is still told
        Kit.due("result()", x.result(), 1);
        Kit.due("steps()", x.steps(), 2);
        Kit.due("refused", x.run(0, 2), -2);
        Kit.due("refused", x.run(9, 2), -1);
        x.argument(1);
        Kit.due("refused", x.run(0, -2), -3);
        Kit.due("result()", x.result(), 1);
        Kit.due("steps()", x.steps(), 2);
        ends(x, 1, 3, 2, -1);
        Kit.due("refused", x.run(0, 2), -2);
        Kit.due("error()", x.error(), 3);
        Kit.due("steps()", x.steps(), 2);
        Kit.due("result()", x.result(), 0);
    }

    /** Promises 19 to 21: "an int with its sign, a long, the number of an array (0 null); 0 if it gave nothing ..". */
    private static void results() {
        CodeFoundry x = new CodeFoundry();
        Kit.due("no run: result()", x.result(), 0);
        Kit.due("no run: error()", x.error(), -1);
        Kit.due("no run: steps()", x.steps(), 0);
        x = Kit.staged(klass("(I)I", 1, 1, "26; 172").method("l", "(J)J", 2, 2, "30; 173")
                .method("a", "([I)[I", 1, 1, "42; 176").method("v", "()V", 1, 0, "4; 177")
                .method("n", "(I)[I", 1, 1, "26; 188 10; 176").method("e", "()I", 2, 0, "4; 3; 108; 172"));
        for (int v : new int[] {0, 1, -1, LEAST, MOST}) {
            run(x, 0, 0, v, v);
            run(x, 1, 0, v, v);
        }
        run(x, 1, 0, Long.MIN_VALUE, Long.MIN_VALUE);
        run(x, 1, 0, Long.MAX_VALUE, Long.MAX_VALUE);
        run(x, 4, 0, 1, 5);
        run(x, 2, 0, 1, 1);
        run(x, 2, 0, 0, 0);
        run(x, 1, 0, 9, 9);
        run(x, 3, 0, 0);
        run(x, 1, 0, 9, 9);
        run(x, 5, 1, 0);
        Kit.due("error()", x.error(), 0);
        run(x, 1, 0, 9, 9);
        Kit.due("error() of a run that returned", x.error(), -1);
        run(x, 5, 1, 0);
        Kit.due("no fuel", x.run(3, 1), 2);
        Kit.due("error() of a run without fuel", x.error(), -1);
        Kit.due("result()", x.result(), 0);
    }

    /** Promises 22 to 24: what is there and what is not. */
    private static void answersOfTheStage() {
        CodeFoundry x = new CodeFoundry();
        for (int k : new int[] {-1, 0, 1, 23, 24, LEAST, MOST}) {
            Kit.due("field", x.field(k), 0);
            Kit.due("element", x.element(k, 0), 0);
            Kit.due("arrayLength", x.arrayLength(k), -1);
        }
        Kit.Klass k = new Kit.Klass();
        StringBuilder set = new StringBuilder();
        for (int f = 0; f < 24; f++) {
            k.field("f" + f, f % 2 == 0 ? "I" : "J");
            set.append(f % 2 == 0 ? "17 " + (-f - 1) + "; 179 field:f" + f + ":I; "
                    : "20 long:" + (1L << f + 30) + "; 179 field:f" + f + ":J; ");
        }
        k.method("m", "()V", 3, 0, set + "177").method("n", "()V", 4, 0, "6; 188 10; 89; 3; 2; 79; 5; 16 9; 79; 177");
        x = Kit.staged(k);
        run(x, 0, 0, 0);
        run(x, 1, 0, 0);
        for (int f = 0; f < 24; f++) {
            Kit.due("field " + f, x.field(f), f % 2 == 0 ? -f - 1 : 1L << f + 30);
        }
        for (int f : new int[] {-1, 24, 25, LEAST, MOST}) {
            Kit.due("field " + f, x.field(f), 0);
        }
        int[] want = {-1, 0, 9};
        for (int i = 0; i < 3; i++) {
            Kit.due("element(1, " + i + ")", x.element(1, i), want[i]);
        }
        for (int i : new int[] {-1, 3, LEAST, MOST}) {
            Kit.due("element(1, " + i + ")", x.element(1, i), 0);
        }
        for (int a : new int[] {-1, 0, 2, LEAST, MOST}) {
            Kit.due("element(" + a + ", 0)", x.element(a, 0), 0);
            Kit.due("arrayLength(" + a + ")", x.arrayLength(a), -1);
        }
        Kit.due("arrayLength(1)", x.arrayLength(1), 3);
        // a file with fewer fields comes on the stage: the others are there no more
        Kit.due("file()", Kit.file(x, klass("()V", 1, 0, "4; 179 field:i:I; 177").bytes()), 1);
        Kit.due("verify(1)", x.verify(1), 0);
        Kit.due("stage(1)", x.stage(1), true);
        run(x, 0, 0, 0);
        Kit.due("field(0)", x.field(0), 1);
        Kit.due("field(3)", x.field(3), 0);
        Kit.due("field(23)", x.field(23), 0);
    }

    /** 24 places of stack and locals, in each of sixty methods: nothing strays. */
    private static void fullFrames() {
        StringBuilder code = new StringBuilder();
        for (int k = 1; k < 24; k++) {
            code.append("26; 16 ").append(k).append("; 96; 54 ").append(k).append("; ");
        }
        code.append("26; 153 @z; 26; 4; 100; 184 call:m:(I)I; 54 0; z: ");
        for (int k = 0; k < 24; k++) {
            code.append("21 ").append(k).append("; ");
        }
        code.append("96; ".repeat(23)).append("172");
        CodeFoundry x = Kit.staged(klass("(I)I", 24, 24, code.toString()));
        int sum = 23 * 24 / 2;
        for (int n = 1; n <= 59; n++) {
            sum = sum + 23 * n + 23 * 24 / 2;
        }
        run(x, 0, 0, sum, 59);
        CodeFoundry y = Kit.staged(klass("()J", 24, 24, "10; 55 22; " + "22 22; ".repeat(12) + "97; ".repeat(11)
                + "173"));
        run(y, 0, 0, 12);
        // eight places of parameters, from the top of a full stack
        CodeFoundry z = Kit.staged(klass("(JJJJ)J", 24, 8, "30; 32; 97; 22 4; 97; 22 6; 97; 173")
                .method("c", "()J", 24, 0, "9; ".repeat(8) + "10; 20 long:10; 20 long:100; 20 long:1000; "
                        + "184 call:m:(JJJJ)J; 173"));
        run(z, 1, 0, 1111);
    }
}
