import java.lang.management.ManagementFactory;
import java.util.Random;

/** No call throws or fails to end, whatever it is asked, and all calls of a run find room. */
public final class RoomTest {
    private static final int CALLS = 512;

    public static void main(String[] args) {
        anyCalls();
        dearCalls();
        manyObjects();
        Kit.finish("RoomTest");
    }

    private static Kit.Klass sample(Random random) {
        Kit.Klass k = new Kit.Klass().field("n", "I").field("l", "J").field("a", "[I");
        k.method("m", "(II)I", 6, 6, "3; 61; a: 26; 158 @b; 28; 27; 4; 104; 96; 3; 128; 61; 132 0 -1; "
                + "8; 54 4; 167 @c; 0; c: 167 @a; b: 28; 54 5; 21 5; 172");
        k.method("d", "(II)I", 4, 4, "a: 26; 27; 108; 61; b: 28; 172; h: 87; 4; 4; 100; 153 @z; 0; z: 16 77; "
                + "172; e:", "a b h DivideError");
        k.method("s", "(I)[I", 4, 4, "26; 170 @a -1 @b @c; a: 26; 188 10; 176; b: 1; 176; c: 26; 171 @a 5 @b; 177");
        k.method("r", "(J[I)J", 9, 4, "30; 92; 10; 101; 44; 184 call:r:(J[I)J; 105; 178 field:l:J; 97; 173");
        StringBuilder code = new StringBuilder();
        int n = random.nextInt(60);
        for (int i = 0; i < n; i++) {
            code.append(new String[] {"4; ", "9; ", "1; ", "0; ", "87; ", "88; ", "89; ", "96; ", "26; ", "59; ",
                "132 0 7; ", "42; ", "75; ", "92; ", "136; ", "133; ", "30; ", "63; "}[random.nextInt(18)]);
        }
        k.method("w", "(IJ)V", random.nextInt(25), 3 + random.nextInt(21), code + "177");
        return k;
    }

    private static int any(Random random) {
        switch (random.nextInt(8)) {
            case 0: return random.nextInt();
            case 1: return Integer.MIN_VALUE;
            case 2: return Integer.MAX_VALUE;
            case 3: return -1;
            default: return random.nextInt(random.nextBoolean() ? 4 : 60);
        }
    }

    private static void anyCalls() {
        long sum = 0;
        for (int seed = 0; seed < 2000; seed++) {
            Random random = new Random(seed);
            CodeFoundry x = new CodeFoundry();
            int calls = 0;
            while (calls < CALLS) {
                if (random.nextInt(60) == 0) {
                    byte[] b = sample(random).bytes();
                    for (int i = random.nextInt(3) * random.nextInt(3); i > 0; i--) {
                        b[random.nextInt(b.length)] = (byte) random.nextInt();
                    }
                    Kit.tray(x, b);
                    calls += b.length / 20 + 2;
                    sum += x.file();
                    sum += x.verify(any(random) & 3);
                    continue;
                }
                sum += call(x, random);
                calls++;
            }
            Kit.due("strays()", x.strays(), 0);
        }
        Kit.due("answers were given", sum != 0, true);
    }

    private static long call(CodeFoundry x, Random r) {
        switch (r.nextInt(31)) {
            case 0: return x.feed(r.nextInt(), r.nextInt(), r.nextInt(), r.nextInt(), r.nextInt());
            case 1: return x.end(any(r)) ? 1 : 0;
            case 2: return x.file();
            case 3: return x.rule();
            case 4: return x.place();
            case 5: return x.size(any(r), any(r));
            case 6: return x.length(any(r), any(r));
            case 7: return x.verify(any(r));
            case 8: return x.method();
            case 9: return x.at();
            case 10: return x.height(any(r), any(r), any(r));
            case 11: return x.local(any(r), any(r), any(r), any(r));
            case 12: return x.write(any(r));
            case 13: return x.byteAt(any(r));
            case 14: return x.stage(any(r)) ? 1 : 0;
            case 15: return x.argument(any(r));
            case 16: return x.run(any(r), any(r));
            case 17: return x.result();
            case 18: return x.error();
            case 19: return x.steps();
            case 20: return x.field(any(r));
            case 21: return x.element(any(r), any(r));
            case 22: return x.arrayLength(any(r));
            case 23: return x.blocks(any(r), any(r));
            case 24: return x.block(any(r), any(r), any(r), any(r));
            case 25: return x.edge(any(r), any(r), any(r), any(r)) ? 1 : 0;
            case 26: return x.improve(any(r), r.nextInt(2048));
            case 27: return x.applied(any(r));
            case 28: return x.count(any(r));
            case 29: return x.argument(r.nextLong());
            default: return x.strays();
        }
    }

    private static long allocated() {
        return ((com.sun.management.ThreadMXBean) ManagementFactory.getThreadMXBean())
                .getThreadAllocatedBytes(Thread.currentThread().getId());
    }

    /** A large file, and all that is dear with it: an element takes a byte at least, so bytes bound the room. */
    private static void dearCalls() {
        Kit.Klass k = new Kit.Klass().field("n", "I");
        for (int m = 0; m < 6; m++) {
            StringBuilder code = new StringBuilder("4; 60; ");
            for (int i = 0; i < 90; i++) {
                code.append("L").append(i).append(": 27; 153 @L").append((i * 7 + 3) % 90).append("; 4; 5; 96; 60; 0; ");
            }
            k.method("m" + m, "(I)I", 6, 6, code + "L90: 27; 172; h: 87; 5; 172; e:", "L3 L60 h 0", "L50 L90 h 0");
        }
        byte[] b = k.bytes();
        Kit.tray(new CodeFoundry(), b);
        long before = allocated();
        CodeFoundry x = new CodeFoundry();
        Kit.tray(x, b);
        int calls = (b.length + 19) / 20 + 2;
        x.file();
        x.verify(0);
        for (int f = 1; f < 12; f++) {
            x.improve(0, f == 1 ? 2047 : 0);
            x.verify(f);
            calls += 2;
        }
        x.stage(0);
        for (int c = calls; c < CALLS; c++) {
            switch (c % 5) {
                case 0: x.write(c % 12); break;
                case 1: x.blocks(c % 12, c % 6); break;
                case 2: x.argument(3); break;
                case 3: x.run(c % 6, 50000); break;
                default: x.verify(c % 12); break;
            }
        }
        long used = allocated() - before;
        System.out.println("dear calls: " + used + " bytes");
        Kit.due("room for 7.3 million elements", used < 7300000, true);
        Kit.due("files", x.size(11, 1), 6);
    }

    private static void manyObjects() {
        long before = allocated();
        new CodeFoundry();
        long used = allocated() - before;
        System.out.println("a new object: " + used + " bytes");
        Kit.due("a new object is light", used < 30000, true);
    }
}
