/** Promises 9 to 13: verify, method, at, height, local. */
public final class CheckTest {
    private static final int NONE = 0;
    private static final int INT = 1;
    private static final int LOW = 2;
    private static final int HIGH = 3;
    private static final int INTS = 4;
    private static final int ERROR = 5;
    private static final int NULL = 6;

    public static void main(String[] args) {
        answers();
        takes();
        heights();
        heightsByThemselves();
        locals();
        joins();
        handlers();
        copies();
        returns();
        faultyFlows();
        Kit.finish("CheckTest");
    }

    private static Kit.Klass klass(String type, int stack, int locals, String code, String... handlers) {
        return new Kit.Klass().field("i", "I").field("l", "J").field("a", "[I")
                .method("m", type, stack, locals, code, handlers)
                .method("p", "(IJ[I)J", 2, 4, "9; 173");
    }

    private static CodeFoundry fault(String type, int stack, int locals, String code, int at, String... handlers) {
        CodeFoundry x = new CodeFoundry();
        String what = type + " " + stack + " " + locals + " " + code;
        Kit.due(what + ": file()", Kit.file(x, klass(type, stack, locals, code, handlers).bytes()), 0);
        Kit.due(what + ": verify(0)", x.verify(0), at < 0 ? 0 : 1);
        Kit.due(what + ": method()", x.method(), at < 0 ? -1 : 0);
        Kit.due(what + ": at()", x.at(), at);
        return x;
    }

    private static CodeFoundry good(String type, int stack, int locals, String code, String... handlers) {
        return fault(type, stack, locals, code, -1, handlers);
    }

    private static void types(CodeFoundry x, int i, int height, int... want) {
        Kit.due("height(0, 0, " + i + ")", x.height(0, 0, i), height);
        for (int k = 0; k < want.length; k++) {
            Kit.due("local(0, 0, " + i + ", " + k + ")", x.local(0, 0, i, k), want[k]);
        }
    }

    private static void answers() {
        CodeFoundry x = new CodeFoundry();
        Kit.due("verify(0)", x.verify(0), -1);
        Kit.due("file()", Kit.file(x, new Kit.Klass().method("a", "()V", 0, 0, "177")
                .method("b", "()V", 0, 0, "0; 87; 177").bytes()), 0);
        Kit.due("file()", Kit.file(x, klass("(I)I", 1, 2, "26; 172; 0").bytes()), 1);
        Kit.due("height before verify", x.height(1, 0, 0), -1);
        Kit.due("local before verify", x.local(1, 0, 0, 0), -1);
        Kit.due("verify(0)", x.verify(0), 1);
        Kit.due("method()", x.method(), 1);
        Kit.due("at()", x.at(), 1);
        Kit.due("height of a faulty file", x.height(0, 0, 0), -1);
        Kit.due("local of a faulty file", x.local(0, 0, 0, 0), -1);
        Kit.due("verify(2)", x.verify(2), -1);
        Kit.due("method()", x.method(), -1);
        Kit.due("verify(0)", x.verify(0), 1);
        Kit.due("method()", x.method(), 1);
        Kit.due("verify(1)", x.verify(1), 0);
        Kit.due("method()", x.method(), -1);
        Kit.due("at()", x.at(), -1);
        Kit.due("height", x.height(1, 0, 1), 1);
        Kit.due("height not come to", x.height(1, 0, 2), -1);
        Kit.due("local not come to", x.local(1, 0, 2, 0), -1);
        Kit.due("height of no instruction", x.height(1, 0, 3), -1);
        Kit.due("height of no instruction", x.height(1, 0, -1), -1);
        Kit.due("height of no method", x.height(1, 2, 0), -1);
        Kit.due("height of no method", x.height(1, -1, 0), -1);
        Kit.due("height of no file", x.height(2, 0, 0), -1);
        Kit.due("local 0", x.local(1, 0, 0, 0), INT);
        Kit.due("local 1", x.local(1, 0, 0, 1), NONE);
        Kit.due("local 23", x.local(1, 0, 0, 23), NONE);
        Kit.due("local 24", x.local(1, 0, 0, 24), -1);
        Kit.due("local -1", x.local(1, 0, 0, -1), -1);
        Kit.due("local of no file", x.local(-1, 0, 0, 0), -1);
        Kit.due("verify(-1)", x.verify(-1), -1);
    }

    /** What each instruction takes: one that is right, and others that are not. */
    private static void takes() {
        String[] pushes = {"4", "9", "1", "4; 188 10"};
        // of each instruction: what it takes, as numbers of pushes, and behind it what clears the stack
        String[][] rows = {
            {"96", "00", "87"}, {"97", "11", "88"}, {"100", "00", "87"}, {"101", "11", "88"}, {"104", "00", "87"},
            {"105", "11", "88"}, {"108", "00", "87"}, {"109", "11", "88"}, {"112", "00", "87"}, {"113", "11", "88"},
            {"116", "0", "87"}, {"117", "1", "88"}, {"120", "00", "87"}, {"121", "10", "88"}, {"122", "00", "87"},
            {"123", "10", "88"}, {"124", "00", "87"}, {"125", "10", "88"}, {"126", "00", "87"}, {"127", "11", "88"},
            {"128", "00", "87"}, {"129", "11", "88"}, {"130", "00", "87"}, {"131", "11", "88"}, {"133", "0", "88"},
            {"136", "1", "87"}, {"145", "0", "87"}, {"146", "0", "87"}, {"147", "0", "87"}, {"148", "11", "87"},
            {"54 0", "0", "0"}, {"55 0", "1", "0"}, {"188 10", "0", "87"}, {"87", "0", "0"}, {"88", "1", "0"},
            {"88", "00", "0"}, {"89", "0", "88"}, {"92", "1", "88; 88"}, {"95", "00", "88"}, {"90", "00", "88; 87"},
            {"153 @e", "0", "0"}, {"158 @e", "0", "0"}, {"159 @e", "00", "0"}, {"164 @e", "00", "0"},
            {"179 field:i:I", "0", "0"}, {"179 field:l:J", "1", "0"}, {"170 @e 0 @e", "0", "0"},
            {"171 @e", "0", "0"},
            {"58 0", "2", "0"}, {"58 0", "3", "0"}, {"165 @e", "22", "0"}, {"166 @e", "32", "0"},
            {"198 @e", "3", "0"}, {"199 @e", "2", "0"}, {"87", "2", "0"}, {"89", "3", "88"},
            {"190", "3", "87"}, {"190", "2", "87"}, {"46", "30", "87"}, {"79", "300", "0"}, {"46", "20", "87"},
            {"179 field:a:[I", "3", "0"}, {"179 field:a:[I", "2", "0"}, {"191", "2", "0"},
            {"184 call:p:(IJ[I)J", "013", "88"}, {"184 call:p:(IJ[I)J", "012", "88"}};
        for (String[] row : rows) {
            for (int k = 0; k < row[1].length(); k++) {
                for (int other = 0; other < 4; other++) {
                    String kinds = row[1].substring(0, k) + other + row[1].substring(k + 1);
                    StringBuilder code = new StringBuilder();
                    int at = 0;
                    for (int j = 0; j < kinds.length(); j++) {
                        String push = pushes[kinds.charAt(j) - '0'];
                        code.append(push).append("; ");
                        at += push.contains(";") ? 2 : 1;
                    }
                    boolean same = other == row[1].charAt(k) - '0' || alike(row, k, other);
                    // a type that has another height is a fault as well, but where is told elsewhere
                    if (!same && (other == 1) != (row[1].charAt(k) == '1')) {
                        continue;
                    }
                    code.append(row[0]).append("; ").append(row[2]).append("; e: 177");
                    fault("()V", 8, 2, code.toString(), same ? -1 : at);
                }
            }
        }
    }

    private static boolean alike(String[] row, int k, int other) {
        boolean reference = row[1].charAt(k) >= '2';
        if (row[0].equals("87") || row[0].equals("89") || row[0].equals("90") || row[0].equals("95")
                || row[0].equals("88") && row[1].equals("00")) {
            return other != 1;
        }
        if (row[0].equals("191")) {
            return other == 2;
        }
        return reference && other >= 2;
    }

    private static void heights() {
        fault("()V", 1, 0, "4; 5; 88; 177", 1);
        good("()V", 2, 0, "4; 5; 88; 177");
        fault("()V", 1, 0, "9; 88; 177", 0);
        fault("()V", 4, 0, "4; 88; 177", 1);
        fault("()V", 4, 0, "96; 87; 177", 0);
        fault("()V", 3, 0, "4; 5; 92; 88; 88; 177", 2);
        fault("()V", 2, 0, "4; 5; 90; 177", 2);
        good("()V", 3, 0, "4; 5; 90; 177");
        fault("()V", 1, 0, "4; 133; 88; 177", 1);
        fault("()V", 4, 0, "4; 184 call:p:(IJ[I)J; 177", 1);
        good("()V", 4, 0, "4; 9; 1; 184 call:p:(IJ[I)J; 177");
        fault("()V", 3, 0, "4; 9; 1; 184 call:p:(IJ[I)J; 177", 2);
        fault("()V", 0, 0, "0; 0", 1);
        fault("()V", 2, 0, "a: 4; 153 @a", 1);
        fault("()V", 2, 0, "4; 87", 1);
        good("()V", 1, 0, "a: 167 @a");
        good("()V", 1, 0, "1; 191");
        good("()V", 1, 0, "4; a: 170 @b 0 @b; b: 177; 87");
        fault("()I", 2, 0, "172", 0);
        fault("()J", 2, 0, "4; 173", 1);
        // another height than another way to it, at the instruction itself
        CodeFoundry x = fault("()V", 4, 0, "4; 153 @a; 4; a: 177", 3);
        Kit.due("height()", x.height(0, 0, 0), -1);
        fault("()V", 24, 0, "a: 4; 167 @a", 0);
        fault("()J", 5, 0, "4; 9; 5; 184 call:m:()J; 88; 87; 88; 87; 9; 173", 3);
        x = good("()J", 6, 0, "4; 9; 5; 184 call:m:()J; 88; 87; 88; 87; 9; 173");
        int[] want = {0, 1, 3, 4, 6, 4, 3, 1, 0, 2};
        for (int i = 0; i < want.length; i++) {
            Kit.due("height " + i, x.height(0, 0, i), want[i]);
        }
    }

    private static void heightsByThemselves() {
        // the pop has too few on one way and goes on with the other one
        fault("()V", 2, 0, "4; 153 @a; 4; a: 87; 177", 3);
        // the faulty way goes on nowhere: the last but one instruction is come to in one height
        CodeFoundry x = new CodeFoundry();
        Kit.due("file()", Kit.file(x, klass("()V", 2, 0, "4; 153 @a; 167 @b; a: 4; 87; 177; b: 87; 167 @a").bytes()),
                0);
        Kit.due("verify(0)", x.verify(0), 1);
        Kit.due("at()", x.at(), 6);
        // a jump at the end falls off, and does not come to its target either
        fault("()V", 2, 0, "167 @b; a: 87; 177; b: 4; 5; 153 @a", 5);
        // too many goes on nowhere
        fault("()V", 1, 0, "4; 167 @c; a: 88; 177; c: 5; 167 @a", 4);
        // both heights spread on, the lower instruction is told
        fault("()V", 3, 0, "167 @b; a: 0; 177; b: 4; 153 @a; 4; 167 @a", 1);
        // types do not come from an instruction that has a fault of height
        fault("()V", 3, 1, "167 @b; a: 26; 87; 177; b: 4; 153 @c; 4; c: 0; 59; 167 @a", 7);
    }

    private static void locals() {
        CodeFoundry x = good("(IJ[I)V", 2, 8, "26; 54 4; 28; 55 6; 177".replace("28", "31"));
        types(x, 0, 0, INT, LOW, HIGH, INTS, NONE, NONE, NONE, NONE);
        types(x, 1, 1, INT, LOW, HIGH, INTS, NONE, NONE, NONE, NONE);
        types(x, 2, 0, INT, LOW, HIGH, INTS, INT, NONE, NONE, NONE);
        types(x, 3, 2, INT, LOW, HIGH, INTS, INT, NONE, NONE, NONE);
        types(x, 4, 0, INT, LOW, HIGH, INTS, INT, NONE, LOW, HIGH);
        // stores break longs that they touch
        x = good("(JJ)V", 2, 5, "4; 60; 4; 61; 9; 64; 9; 63; 177");
        types(x, 1, 1, LOW, HIGH, LOW, HIGH);
        types(x, 2, 0, NONE, INT, LOW, HIGH);
        types(x, 4, 0, NONE, INT, INT, NONE);
        types(x, 6, 0, NONE, LOW, HIGH, NONE);
        types(x, 8, 0, LOW, HIGH, NONE, NONE);
        x = good("(JJ)V", 2, 5, "9; 64; 177");
        types(x, 2, 0, NONE, LOW, HIGH, NONE);
        fault("(JJ)V", 2, 5, "9; 64; 30; 177", 2);
        fault("(JJ)V", 2, 5, "9; 64; 32; 177", 2);
        fault("()V", 2, 2, "26; 177", 0);
        fault("(J)V", 2, 2, "26; 177", 0);
        fault("(J)V", 2, 2, "27; 177", 0);
        fault("(J)V", 2, 3, "31; 177", 0);
        fault("(I)V", 2, 2, "42; 177", 0);
        fault("(I)V", 2, 2, "30; 177", 0);
        fault("([I)V", 2, 2, "26; 177", 0);
        fault("(J)V", 2, 2, "132 1 1; 177", 0);
        fault("([I)V", 2, 2, "132 0 1; 177", 0);
        good("(I)V", 2, 2, "132 0 1; 177");
        x = good("()V", 2, 2, "1; 75; 4; 188 10; 76; 42; 177");
        types(x, 2, 0, NULL, NONE);
        types(x, 5, 0, NULL, INTS);
    }

    private static void joins() {
        CodeFoundry x = good("(I)V", 2, 4, "1; 76; 26; 153 @a; 4; 188 10; 76; 4; 61; a: 43; 87; 177");
        types(x, 9, 0, INT, INTS, NONE);
        x = good("(I)V", 2, 4, "4; 60; 26; 153 @a; 9; 64; 9; 63; a: 177");
        types(x, 8, 0, NONE, NONE, NONE);
        // a loop: what comes back joins what came first
        x = good("(I)V", 2, 4, "1; 76; a: 43; 198 @b; b: 4; 188 10; 76; 167 @a");
        types(x, 2, 0, INT, INTS);
        x = good("(I)V", 2, 4, "4; 60; a: 0; 1; 76; 167 @a");
        types(x, 2, 0, INT, NONE);
        fault("(I)V", 2, 4, "4; 60; a: 27; 87; 1; 76; 167 @a", 2);
        // stacks join too: NONE is no fault as long as nothing takes it
        good("(I)V", 2, 4, "26; 153 @a; 4; 167 @b; a: 1; b: 177");
        fault("(I)V", 2, 4, "26; 153 @a; 4; 167 @b; a: 1; b: 87; 177", 5);
        good("(I)V", 2, 4, "26; 153 @a; 4; 188 10; 167 @b; a: 1; b: 190; 87; 177");
        fault("(I)V", 3, 4, "26; 153 @a; 9; 167 @b; a: 4; 5; b: 88; 177", 6);
        good("(I)V", 3, 4, "26; 153 @a; 9; 167 @b; a: 10; b: 88; 177");
    }

    private static void handlers() {
        CodeFoundry x = good("(I)V", 2, 3, "a: 4; 60; 1; 77; b: 177; h: 87; 177; e:", "a b h 0");
        types(x, 5, 1, INT, NONE, NONE);
        x = good("(I)V", 2, 3, "4; 60; a: 1; 77; b: 177; h: 77; 44; 191; e:", "a b h DivideError");
        types(x, 5, 1, INT, INT, NONE);
        types(x, 6, 0, INT, INT, ERROR);
        // what is behind the last instruction of the range does not come to AT
        x = good("(I)V", 2, 3, "a: 4; 60; b: 177; h: 87; 177; e:", "a b h 0");
        types(x, 3, 1, INT, NONE);
        fault("(I)V", 0, 3, "a: 0; b: 177; h: 177; e:", 0, "a b h 0");
        good("(I)V", 1, 3, "a: 0; b: 177; h: 177; e:", "a b h 0");
        // ERROR with INTS is NONE, with NULL it is ERROR
        fault("()V", 1, 1, "1; 188 10; 75; 177", 1);
        x = good("()V", 2, 1, "1; 75; 0; a: 42; 198 @h2; b: 177; h: 75; h2: 42; 191; e:", "a b h 0");
        types(x, 7, 0, ERROR);
        fault("()V", 2, 1, "3; 188 10; 75; a: 0; b: 167 @h2; h: 75; h2: 42; 87; 177; e:", 6, "a b h 0");
        fault("()V", 2, 1, "a: 0; b: 177; h: 190; 177; e:", 2, "a b h 0");
        fault("()V", 2, 1, "a: 0; b: 177; h: 172; e:", 2, "a b h 0");
        fault("()V", 2, 1, "3; 188 10; 191", 2);
        // a handler of its own range
        good("()V", 1, 0, "a: 0; h: 177; e:".replace("h: 177", "177; h: 191"), "a e h 0");
        // not come to, so not caught: MOST STACK may be 0
        good("()V", 0, 0, "177; a: 0; b: 177; h: 87; 177; e:", "a b h 0");
    }

    private static void copies() {
        CodeFoundry x = good("()V", 4, 4, "4; 89; 59; 60; 1; 4; 90; 59; 76; 61; 1; 4; 95; 77; 87; 9; 92; 63; 88; 177");
        types(x, 4, 0, INT, INT, NONE);
        types(x, 10, 0, INT, NULL, INT);
        types(x, 18, 2, LOW, HIGH, NULL);
        fault("()V", 4, 4, "9; 89; 177", 1);
        fault("()V", 4, 4, "9; 87; 177", 1);
        fault("()V", 5, 4, "9; 4; 95; 177", 2);
        fault("()V", 5, 4, "4; 9; 90; 177", 2);
        fault("()V", 5, 4, "9; 4; 92; 177", 2);
        fault("()V", 5, 4, "4; 9; 4; 88; 177", 3);
        good("()V", 5, 4, "1; 4; 92; 88; 88; 177");
        good("()V", 5, 4, "4; 9; 88; 87; 177");
    }

    private static void returns() {
        String[] ends = {"4; 172", "9; 173", "1; 176", "0; 177"};
        String[] types = {"()I", "()J", "()[I", "()V"};
        for (int t = 0; t < 4; t++) {
            for (int e = 0; e < 4; e++) {
                fault(types[t], 4, 4, ends[e], e == t ? -1 : 1);
            }
        }
        good("()[I", 4, 4, "4; 188 10; 176");
        fault("()[I", 4, 4, "4; 176", 1);
        fault("()[I", 4, 4, "a: 0; b: 1; 176; h: 176; e:", 3, "a b h 0");
        good("()I", 4, 4, "9; 4; 172");
    }

    /** Types go on from an instruction that has a fault of types, with the results that are told. */
    private static void faultyFlows() {
        // the element of an int is an int all the same: the fault is told where it is, behind its user
        fault("(I)V", 4, 2, "167 @b; a: 60; 177; b: 4; 4; 46; 167 @a", 5);
        // what is copied is NONE: the user, which stands before, has the first fault
        fault("(J)V", 6, 4, "167 @b; a: 87; 177; b: 30; 89; 167 @a", 1);
        fault("(I)V", 6, 4, "167 @b; a: 87; 177; b: 42; 167 @a", 1);
        fault("(I)V", 6, 4, "167 @b; a: 43; 87; 177; b: 26; 76; 167 @a", 1);
        fault("([I)V", 6, 4, "167 @b; a: 26; 87; 177; b: 42; 59; 167 @a", 5);
    }
}
