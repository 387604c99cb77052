import java.util.Random;

/** verify() beside the Java machine's own checking, which infers types for files of version 49 as well. */
public final class BesideJavaTest {
    private static final String[] PARTS = {"0", "1", "4", "5", "9", "10", "26", "27", "30", "42", "44", "21 3", "22 3",
        "25 5", "59", "60", "63", "64", "75", "77", "54 3", "55 3", "58 5", "87", "88", "89", "90", "92", "95", "96",
        "97", "116", "117", "121", "133", "136", "148", "132 0 1", "132 3 1", "4; 188 10", "190", "44; 4; 46",
        "44; 4; 5; 79", "178 field:i:I", "178 field:l:J", "178 field:a:[I", "179 field:i:I", "179 field:l:J",
        "179 field:a:[I", "184 call:m:(IJ[I)I", "4; 9; 1; 184 call:m:(IJ[I)I", "26; 153 @", "26; 27; 159 @",
        "42; 198 @", "1; 199 @", "167 @", "4; 172", "26; 172", "1; 191"};

    private static final class Loader extends ClassLoader {
        Class<?> define(byte[] b) {
            return defineClass(null, b, 0, b.length);
        }
    }

    public static void main(String[] args) {
        Random random = new Random(49);
        int sound = 0;
        for (int t = 0; t < 12000; t++) {
            Kit.Klass k = new Kit.Klass("M", "java/lang/Object").field("i", "I").field("l", "J").field("a", "[I")
                    .method("m", "(IJ[I)I", 2 + random.nextInt(5), 7, code(random));
            byte[] b = k.bytes();
            CodeFoundry x = new CodeFoundry();
            Kit.due("file()", Kit.file(x, b), 0);
            boolean here = x.verify(0) == 0;
            String there = java(b);
            // stacks of an int and a reference may come together here, as long as nothing takes them
            if (!there.contains("Mismatched stack types")) {
                Kit.due(t + ": as Java says: " + there, here, there.isEmpty());
            }
            sound += here ? 1 : 0;
        }
        Kit.due("some are sound", sound > 1000, true);
        Kit.finish("BesideJavaTest");
    }

    private static String code(Random random) {
        int n = 1 + random.nextInt(7);
        StringBuilder code = new StringBuilder();
        for (int i = 0; i < n; i++) {
            String part = PARTS[random.nextInt(PARTS.length)];
            code.append("L").append(i).append(": ").append(part);
            if (part.endsWith("@")) {
                code.append("L").append(random.nextInt(n + 1));
            }
            code.append("; ");
        }
        return code + "L" + n + ": 26; 172";
    }

    private static String java(byte[] b) {
        try {
            Class<?> c = new Loader().define(b);
            Class.forName(c.getName(), true, c.getClassLoader());
            return "";
        } catch (LinkageError | ClassNotFoundException e) {
            return String.valueOf(e.getMessage());
        }
    }
}
