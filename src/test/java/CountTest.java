import java.util.Arrays;

/** Promise 30: count. */
public final class CountTest {
    public static void main(String[] args) {
        answers();
        asTold();
        handlers();
        runs();
        refused();
        Kit.finish("CountTest");
    }

    private static void counted(Kit.Klass before, Kit.Klass after) {
        CodeFoundry x = Kit.checked(before);
        Kit.due("count(0)", x.count(0), 1);
        Kit.due("verify(1)", x.verify(1), 0);
        byte[] got = Kit.written(x, 1);
        byte[] want = Kit.written(Kit.checked(after), 0);
        Kit.due("as told", Arrays.equals(got, want), true);
    }

    private static String counter(int k) {
        return "178 field:c" + k + ":J; 10; 97; 179 field:c" + k + ":J; ";
    }

    private static void answers() {
        CodeFoundry x = new CodeFoundry();
        Kit.due("no file", x.count(0), -1);
        Kit.due("file()", Kit.file(x, new Kit.Klass().field("n", "I").method("m", "()V", 0, 0, "177").bytes()), 0);
        Kit.due("not checked", x.count(0), -1);
        Kit.due("verify(0)", x.verify(0), 0);
        Kit.due("count(0)", x.count(0), 1);
        Kit.due("size(1, 0)", x.size(1, 0), 2);
        Kit.due("length(1, 0)", x.length(1, 0), 5);
        Kit.due("size(0, 0)", x.size(0, 0), 1);
        Kit.due("not checked", x.stage(1), false);
        Kit.due("count(1)", x.count(1), -1);
        Kit.due("count(-1)", x.count(-1), -1);
        CodeFoundry none = Kit.checked(new Kit.Klass());
        Kit.due("no methods", none.count(0), 1);
        Kit.due("no fields", none.size(1, 0), 0);
    }

    private static void asTold() {
        counted(new Kit.Klass().field("a", "I")
                .method("m", "(I)I", 1, 1, "26; 153 @a; 4; 172; a: 5; 172; 0; 6; 172")
                .method("n", "()V", 1, 1, "a: 167 @a; 177")
                .method("s", "(I)V", 1, 1, "26; 170 @a 0 @b; a: 0; b: 177"),
                new Kit.Klass().field("a", "I").field("c0", "J").field("c1", "J").field("c2", "J").field("c3", "J")
                .field("c4", "J").field("c5", "J").field("c6", "J")
                .method("m", "(I)I", 4, 1, counter(0) + "26; 153 @a; " + counter(1) + "4; 172; a: " + counter(2)
                        + "5; 172; 0; 6; 172")
                .method("n", "()V", 4, 1, "a: " + counter(3) + "167 @a; 177")
                .method("s", "(I)V", 4, 1, counter(4) + "26; 170 @a 0 @b; a: " + counter(5) + "0; b: " + counter(6)
                        + "177"));
        // a block that begins with something on the stack
        counted(new Kit.Klass().method("m", "(I)I", 3, 1, "4; 26; 153 @a; 116; a: 172"),
                new Kit.Klass().field("c0", "J").field("c1", "J").field("c2", "J")
                .method("m", "(I)I", 5, 1, counter(0) + "4; 26; 153 @a; " + counter(1) + "116; a: " + counter(2)
                        + "172"));
    }

    private static void handlers() {
        counted(new Kit.Klass().method("m", "(I)I", 3, 1,
                "0; a: 4; 26; 108; b: 172; h: 87; 5; 172; e:", "a b h DivideError", "b e h 0"),
                new Kit.Klass().field("c0", "J").field("c1", "J").field("c2", "J").field("c3", "J")
                .method("m", "(I)I", 5, 1, counter(0) + "0; a: " + counter(1) + "4; 26; 108; b: " + counter(2)
                        + "172; h: " + counter(3) + "87; 5; 172; e:", "a b h DivideError", "b e h 0"));
        // not reached: no counter, the handler stays
        counted(new Kit.Klass().method("m", "()V", 3, 1, "177; a: 0; b: 177; h: 87; 177; e:", "a b h 0"),
                new Kit.Klass().field("c0", "J").method("m", "()V", 4, 1, counter(0)
                        + "177; a: 0; b: 177; h: 87; 177; e:", "a b h 0"));
    }

    private static void runs() {
        CodeFoundry x = Kit.checked(new Kit.Klass().field("n", "I").method("sum", "(I)I", 2, 2,
                "3; 60; a: 26; 158 @b; 27; 26; 96; 60; 132 0 -1; 167 @a; b: 27; 172"));
        Kit.due("count(0)", x.count(0), 1);
        Kit.due("verify(1)", x.verify(1), 0);
        Kit.due("stage(1)", x.stage(1), true);
        x.argument(10);
        Kit.due("run(0, 1000)", x.run(0, 1000), 0);
        Kit.due("result()", x.result(), 55);
        long[] want = {0, 1, 11, 10, 1, 0};
        for (int k = 0; k < want.length; k++) {
            Kit.due("field(" + k + ")", x.field(k), want[k]);
        }
        Kit.due("steps()", x.steps(), 2 + 2 * 11 + 6 * 10 + 2 + 4 * 23);
        Kit.due("c0 is there", x.count(1), -3);
    }

    private static void refused() {
        CodeFoundry x = Kit.checked(new Kit.Klass().field("c1", "I").method("m", "()V", 1, 1, "167 @a; a: 177"));
        Kit.due("c1 is there", x.count(0), -3);
        CodeFoundry y = Kit.checked(new Kit.Klass().field("c1", "I").method("m", "()V", 1, 1, "0; 177"));
        Kit.due("c0 alone is needed", y.count(0), 1);
        for (int blocks = 23; blocks <= 25; blocks++) {
            StringBuilder code = new StringBuilder();
            for (int b = 1; b < blocks; b++) {
                code.append("167 @L").append(b).append("; L").append(b).append(": ");
            }
            CodeFoundry z = Kit.checked(new Kit.Klass().method("m", "()V", 1, 1, code + "177"));
            Kit.due(blocks + " blocks", z.count(0), blocks > 24 ? -3 : 1);
        }
        StringBuilder deep = new StringBuilder();
        for (int i = 0; i < 20; i++) {
            deep.append("4; ");
        }
        CodeFoundry d = Kit.checked(new Kit.Klass().method("m", "()V", 24, 0, deep + "167 @a; a: 177"));
        Kit.due("24 places", d.count(0), 1);
        CodeFoundry e = Kit.checked(new Kit.Klass().method("m", "()V", 24, 0, deep + "4; 167 @a; a: 177"));
        Kit.due("25 places", e.count(0), -3);
        String long1 = "0; ".repeat(1191) + "177";
        Kit.due("1200 bytes", Kit.checked(new Kit.Klass().method("m", "()V", 0, 0, long1)).count(0), 1);
        Kit.due("1201 bytes", Kit.checked(new Kit.Klass().method("m", "()V", 0, 0, "0; " + long1)).count(0), -3);
    }
}
