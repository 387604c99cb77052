import java.util.Random;

/** What write(), improve() and count() make runs as the file that it was made of, on code by chance. */
public final class SameRunsTest {
    private static final String[] PARTS = {"0", "4", "5; 87", "26; 60", "27; 59", "9; 55 4", "22 4; 88", "22 4; 10; 97; 55 4",
        "26; 3; 96; 60", "26; 4; 104; 59", "26; 27; 108; 59", "26; 27; 112; 60", "4; 5; 96; 59", "5; 116; 60",
        "3; 153 @", "4; 153 @", "4; 5; 161 @", "26; 153 @", "26; 27; 163 @", "167 @", "26; 54 6; 21 6; 59", "26; 54 7",
        "132 0 1", "132 1 -3", "132 7 5", "44; 26; 46; 60", "44; 27; 26; 79", "44; 190; 59", "26; 188 10; 77", "1; 77",
        "44; 198 @", "44; 179 field:a:[I", "178 field:a:[I; 77", "178 field:i:I; 26; 96; 179 field:i:I",
        "22 4; 179 field:l:J", "178 field:l:J; 55 4", "26; 170 @ 0 @ @", "27; 171 @ 1 @ 7 @", "26; 133; 55 4",
        "22 4; 136; 60", "22 4; 26; 121; 55 4", "26; 27; 126; 59", "22 4; 9; 148; 60", "26; 172", "1; 191", "26; 89; 96; 60",
        "26; 27; 95; 100; 59", "26; 27; 44; 184 call:n:(II[I)I; 60", "2; 126", "26; 2; 126; 59"};

    public static void main(String[] args) {
        Random random = new Random(2026);
        int compared = 0;
        for (int t = 0; t < 4000; t++) {
            Kit.Klass k = new Kit.Klass().field("i", "I").field("l", "J").field("a", "[I")
                    .method("m", "(II[I)I", 8, 9, "9; 55 4; 3; 54 6; 3; 54 7; " + code(random), handlers(random))
                    .method("n", "(II[I)I", 3, 3, "26; 4; 100; 27; 126; 172");
            CodeFoundry x = new CodeFoundry();
            if (Kit.file(x, k.bytes()) == 0 && x.verify(0) == 0) {
                compared += compare(x, random);
            }
        }
        Kit.due("many were compared", compared > 1500, true);
        System.out.println(compared + " runs compared");
        Kit.finish("SameRunsTest");
    }

    private static final int LINES = 9;

    private static String code(Random random) {
        StringBuilder code = new StringBuilder();
        for (int i = 0; i < LINES; i++) {
            StringBuilder part = new StringBuilder();
            for (char c : PARTS[random.nextInt(PARTS.length)].toCharArray()) {
                part.append(c);
                if (c == '@') {
                    part.append("L").append(random.nextInt(LINES + 1));
                }
            }
            code.append("L").append(i).append(": ").append(part).append("; ");
        }
        return code + "L" + LINES + ": 26; 172; H: 87; 132 1 1; 27; 172; E:";
    }

    private static String[] handlers(Random random) {
        String[] handlers = new String[random.nextInt(3)];
        String[] names = {"0", "DivideError", "NullError", "IndexError", "SizeError"};
        for (int i = 0; i < handlers.length; i++) {
            int from = random.nextInt(LINES);
            int to = from + 1 + random.nextInt(LINES - from);
            handlers[i] = "L" + from + " L" + to + " H " + names[random.nextInt(names.length)];
        }
        return handlers;
    }

    private static int compare(CodeFoundry x, Random random) {
        int[] files = {0, x.improve(0, 0), x.improve(0, 2047), x.improve(0, random.nextInt(2048)), x.count(0)};
        byte[] written = Kit.written(x, 0);
        CodeFoundry y = new CodeFoundry();
        Kit.due("what is written is a file", Kit.file(y, written), 0);
        Kit.due("without a fault", y.verify(0), 0);
        int runs = 0;
        for (int r = 0; r < 4; r++) {
            long a = random.nextInt(7) - 3;
            long b = random.nextInt(7) - 3;
            String want = told(x, 0, a, b, 3000);
            if (want.startsWith("2")) {
                continue;
            }
            runs++;
            for (int f : files) {
                if (f >= 0) {
                    Kit.due("verify(" + f + ")", x.verify(f), 0);
                    Kit.due("file " + f + " runs as " + want, told(x, f, a, b, 50000).equals(want), true);
                }
            }
            Kit.due("written runs as " + want, told(y, 0, a, b, 3000).equals(want), true);
        }
        Kit.due("strays()", x.strays(), 0);
        // as it stands, and better for good: nothing is left to be done
        Kit.due("improve(0, 0) did nothing", x.size(files[1], 3), x.size(0, 3));
        Kit.due("verify", x.verify(files[2]), 0);
        int again = x.improve(files[2], 2047);
        Kit.due("a second time is the same", x.size(again, 3), x.size(files[2], 3));
        for (int rule = 1; rule <= 11; rule++) {
            Kit.due("applied(" + rule + ") a second time", x.applied(rule), 0);
        }
        return runs;
    }

    /** All that a run tells on a new stage (counters want more fuel): outcome, result, error, the three fields, the arrays. */
    private static String told(CodeFoundry x, int f, long a, long b, int fuel) {
        Kit.due("stage", x.stage(f), true);
        x.argument(a);
        x.argument(b);
        x.argument(0);
        StringBuilder told = new StringBuilder();
        told.append(x.run(0, fuel)).append(" ").append(x.result()).append(" ").append(x.error());
        for (int k = 0; k < 3; k++) {
            told.append(" ").append(x.field(k));
        }
        for (int n = 1; n <= 5; n++) {
            told.append(" ").append(x.arrayLength(n));
            for (int i = 0; i < 3; i++) {
                told.append(",").append(x.element(n, i));
            }
        }
        return told.toString();
    }
}
