import java.util.Arrays;

/** The edges of rules 13 to 16 of term 1, and of term 2, INSTRUCTIONS. */
public final class EdgeCodeTest {
    public static void main(String[] args) {
        mostStackAndLocals();
        codeLength();
        atMostSixteenCatches();
        noItemBeyondCode();
        shortCode();
        methodByMethod();
        everyOpcode();
        wideForms();
        newIntsOnly();
        tables();
        lookups();
        fill();
        jumps();
        locals();
        poolNumbers();
        members();
        catches();
        pushes();
        lengths();
        Kit.finish("EdgeCodeTest");
    }

    private static Kit.Klass klass(String type, int stack, int locals, String code, String... handlers) {
        return new Kit.Klass().field("x", "I").field("y", "J").method("m", type, stack, locals, code, handlers);
    }

    private static void code(String what, int locals, String text, int rule, int offset) {
        Kit.Klass k = klass("()V", 4, locals, text);
        byte[] b = k.bytes();
        Kit.broken(what, b, rule, rule == 0 ? -1 : k.mark("code0") + offset);
    }

    /** "13 MOST STACK and MOST LOCALS are at most 24, the latter not below the places of the parameters". */
    private static void mostStackAndLocals() {
        Kit.Klass k = klass("()V", 0, 0, "177");
        byte[] b = k.bytes();
        int at = k.mark("stack0");
        for (int v : new int[] {0, 1, 23, 24, 25, 255, 256, 280, 32768, 65535}) {
            Kit.broken("most stack " + v, Kit.with(b, at, v >> 8, v), v > 24 ? 13 : 0, v > 24 ? at : -1);
            Kit.broken("most locals " + v, Kit.with(b, at + 2, v >> 8, v), v > 24 ? 13 : 0, v > 24 ? at + 2 : -1);
        }
        String[] types = {"()V", "(I)V", "(J)V", "([I)V", "(IJ)V", "(JJJ[II)V", "(IIIIIIII)V", "(JJJJ)V"};
        int[] places = {0, 1, 2, 1, 3, 8, 8, 8};
        for (int t = 0; t < types.length; t++) {
            for (int v = 0; v <= 24; v++) {
                Kit.Klass p = klass(types[t], 0, v, "177");
                byte[] c = p.bytes();
                boolean good = v >= places[t];
                Kit.broken(types[t] + " with " + v, c, good ? 0 : 13, good ? -1 : p.mark("stack0") + 2);
            }
        }
        Kit.broken("both, from the left", Kit.with(b, at, 0, 25, 0, 25), 13, at);
        // each method by its own parameters
        Kit.Klass three = klass("()V", 0, 0, "177").method("n", "(JJ)V", 0, 4, "177").method("o", "(I)V", 0, 1, "177");
        byte[] c = three.bytes();
        Kit.sound("each as many as it has", c);
        Kit.broken("one less", Kit.with(c, three.mark("stack1") + 3, 3), 13, three.mark("stack1") + 2);
        Kit.broken("one less", Kit.with(c, three.mark("stack2") + 3, 0), 13, three.mark("stack2") + 2);
        Kit.sound("one more", Kit.with(c, three.mark("stack2") + 3, 2));
    }

    /** "n is 1 .. 1200 (at the U4)". */
    private static void codeLength() {
        for (int n : new int[] {1, 2, 1199, 1200, 1201, 1202}) {
            Kit.Klass k = klass("()V", 0, 0, "0; ".repeat(n - 1) + "177");
            byte[] b = k.bytes();
            boolean good = n <= 1200;
            Kit.broken(n + " bytes", b, good ? 0 : 13, good ? -1 : k.mark("stack0") + 4);
            if (good) {
                CodeFoundry x = new CodeFoundry();
                Kit.due("file()", Kit.file(x, b), 0);
                Kit.due("length(0, 0)", x.length(0, 0), n);
                Kit.due("size(0, 3)", x.size(0, 3), n);
                Kit.due("verify(0)", x.verify(0), 0);
            }
        }
        Kit.Klass k = klass("()V", 0, 0, "177");
        byte[] b = k.bytes();
        int at = k.mark("stack0") + 4;
        Kit.broken("0 bytes", Kit.with(b, at, 0, 0, 0, 0), 13, at);
        Kit.broken("-1 bytes", Kit.with(b, at, 255, 255, 255, 255), 13, at);
        Kit.broken("2^31 + 1 bytes", Kit.with(b, at, 128, 0, 0, 1), 13, at);
        Kit.broken("65537 bytes", Kit.with(b, at, 0, 1, 0, 1), 13, at);
    }

    /** "there are at most 16 catches (at the U2)". */
    private static void atMostSixteenCatches() {
        for (int n : new int[] {0, 1, 15, 16, 17, 18}) {
            String[] handlers = new String[n];
            Arrays.fill(handlers, "a b a 0");
            Kit.Klass k = klass("()V", 1, 0, "a: 0; b: 177", handlers);
            byte[] b = k.bytes();
            Kit.broken(n + " catches", b, n > 16 ? 13 : 0, n > 16 ? k.mark("catches0") : -1);
        }
        Kit.Klass k = klass("()V", 1, 0, "177");
        byte[] b = k.bytes();
        Kit.broken("65535 catches", Kit.with(b, k.mark("catches0"), 255, 255), 13, k.mark("catches0"));
        Kit.broken("256 catches", Kit.with(b, k.mark("catches0"), 1, 0), 13, k.mark("catches0"));
    }

    /** "14 no item goes beyond Code (at its end), and nothing stands behind its items (there)". */
    private static void noItemBeyondCode() {
        Kit.Klass k = klass("(I)V", 2, 2, "a: 26; 60; b: 177; h: 87; 177", "a b h 0", "a b h SizeError")
                .method("n", "()V", 0, 0, "177");
        byte[] b = k.bytes();
        int stack = k.mark("stack0");
        int end = k.mark("behind0");
        // two attributes in Code, with names that are none
        b = Kit.insert(Kit.with(b, end - 1, 2), end, 255, 255, 0, 0, 0, 3, 1, 2, 3, 0, 0, 0, 0, 0, 0);
        int longer = end + 15;
        byte[] c = sized(b, stack, longer - stack);
        Kit.sound("attributes in Code", c);
        for (int n = 0; n < longer - stack; n++) {
            byte[] cut = new byte[b.length - (longer - stack) + n];
            System.arraycopy(b, 0, cut, 0, stack + n);
            System.arraycopy(b, longer, cut, stack + n, b.length - longer);
            Kit.broken("the first " + n + " bytes of Code", sized(cut, stack, n), 14, stack + n);
        }
        for (int n = 1; n <= 9; n++) {
            byte[] more = Kit.insert(c, longer, new int[n]);
            Kit.broken(n + " bytes behind", sized(more, stack, longer - stack + n), 14, longer);
        }
        Kit.broken("an attribute one byte beyond", Kit.with(c, end + 14, 1), 14, longer);
        Kit.broken("an attribute far beyond", Kit.with(c, end + 2, 255, 255, 255, 255), 14, longer);
        Kit.broken("an attribute of 2^31 bytes", Kit.with(c, end + 2, 128, 0, 0, 0), 14, longer);
        Kit.broken("65535 attributes", Kit.with(c, end - 2, 255, 255), 14, longer);
        Kit.broken("one attribute too few", Kit.with(c, end - 1, 1), 14, end + 9);
        Kit.broken("no attributes", Kit.with(c, end - 1, 0), 14, end);
        Kit.broken("a catch more", Kit.with(c, k.mark("catches0") + 1, 3), 14, longer);
        Kit.broken("16 catches", Kit.with(c, k.mark("catches0") + 1, 16), 14, longer);
        Kit.broken("1200 bytes of code", Kit.with(c, stack + 4, 0, 0, 4, 176), 14, longer);
    }

    /** Code of so few bytes: an item that is there is looked at, one that is not is told, whatever stands behind. */
    private static void shortCode() {
        int[][] codes = {{}, {1}, {0, 25}, {0, 24}, {0, 0, 1}, {0, 0, 0, 25}, {0, 0, 0, 24}, {0, 0, 0, 0, 9},
            {0, 0, 0, 0, 9, 9, 9}, {0, 0, 0, 0, 0, 0, 0, 0}, {0, 0, 0, 0, 0, 0, 4, 177}, {0, 0, 0, 0, 0, 0, 4, 176},
            {0, 0, 0, 0, 0, 0, 0, 1}, {0, 0, 0, 0, 0, 0, 0, 1, 177}, {0, 0, 0, 0, 0, 0, 0, 1, 177, 1},
            {0, 0, 0, 0, 0, 0, 0, 1, 177, 0, 17}, {0, 0, 0, 0, 0, 0, 0, 1, 177, 0, 16},
            {0, 0, 0, 0, 0, 0, 0, 1, 177, 0, 0}, {0, 0, 0, 0, 0, 0, 0, 1, 177, 0, 0, 0},
            {0, 0, 0, 0, 0, 0, 0, 1, 177, 0, 0, 0, 1}, {0, 0, 0, 0, 0, 0, 0, 1, 177, 0, 0, 0, 0}};
        // the rule, and how far from the beginning of Code
        int[][] due = {{14, 0}, {14, 1}, {13, 0}, {14, 2}, {14, 3}, {13, 2}, {14, 4}, {14, 5}, {14, 7}, {13, 4}, {13, 4},
            {14, 8}, {14, 8}, {14, 9}, {14, 10}, {13, 9}, {14, 11}, {14, 11}, {14, 12}, {14, 13}, {0, 0}};
        for (int i = 0; i < codes.length; i++) {
            Kit.Raw raw = new Kit.Raw().u1(202, 254, 186, 190).u2(0, 49, 300).name("A").u1(7).u2(1).name("Code")
                    .name("m").name("()V");
            for (int k = 6; k < 300; k++) {
                raw.name("n" + k);
            }
            raw.u2(33, 2, 2, 0, 0, 1, 9, 4, 5, 2, 3).u4(codes[i].length);
            int at = raw.at();
            // an attribute behind it whose number and length would be too large for any item of Code
            byte[] b = raw.u1(codes[i]).u2(299).u4(2).u1(255, 255).u2(0).bytes();
            Kit.broken("Code " + Arrays.toString(codes[i]), b, due[i][0], due[i][0] == 0 ? -1 : at + due[i][1]);
        }
    }

    private static byte[] sized(byte[] b, int stack, int n) {
        return Kit.with(b, stack - 4, n >> 24, n >> 16, n >> 8, n);
    }

    /** "Then for each method in order, from the left, 13 and 14 .. Then for each method in order 15 .. 16". */
    private static void methodByMethod() {
        Kit.Klass k = new Kit.Klass().method("a", "()V", 1, 1, "3; 59; 177").method("b", "()V", 1, 1, "3; 59; 177");
        byte[] b = k.bytes();
        int[][] patches = new int[8][];
        for (int m = 0; m < 2; m++) {
            int stack = k.mark("stack" + m);
            int behind = k.mark("behind" + m);
            int code = k.mark("code" + m);
            // rule, place, where, value
            patches[m * 2] = new int[] {13, stack + 2, stack + 3, 25};
            patches[m * 2 + 1] = new int[] {14, behind, behind - 1, 1};
            patches[4 + m] = new int[] {15, code + 1, code + 1, 255};
            patches[6 + m] = new int[] {16, code + 1, code + 1, 60};
        }
        for (int i = 0; i < patches.length; i++) {
            byte[] one = Kit.with(b, patches[i][2], patches[i][3]);
            Kit.broken("patch " + i, one, patches[i][0], patches[i][1]);
            for (int j = i + 1; j < patches.length; j++) {
                if (patches[j][2] != patches[i][2]) {
                    Kit.broken("patches " + i + " and " + j, Kit.with(one, patches[j][2], patches[j][3]),
                            patches[i][0], patches[i][1]);
                }
            }
        }
    }

    private static int lengthOf(int op) {
        if (op == 16 || op == 18 || op == 21 || op == 22 || op == 25 || op == 54 || op == 55 || op == 58 || op == 188) {
            return 2;
        }
        if (op == 17 || op == 19 || op == 20 || op == 132 || op >= 153 && op <= 167 || op == 178 || op == 179
                || op == 184 || op == 198 || op == 199) {
            return 3;
        }
        if (op == 200) {
            return 5;
        }
        int[][] ones = {{0, 10}, {26, 33}, {42, 46}, {59, 66}, {75, 79}, {87, 90}, {92, 92}, {95, 97}, {100, 101},
            {104, 105}, {108, 109}, {112, 113}, {116, 117}, {120, 131}, {133, 133}, {136, 136}, {145, 148}, {172, 173},
            {176, 177}, {190, 191}};
        for (int[] r : ones) {
            if (op >= r[0] && op <= r[1]) {
                return 1;
            }
        }
        return 0;
    }

    /** "15: CODE is a row of whole INSTRUCTIONS as told in 2 (at the first byte of the first that is not)". */
    private static void everyOpcode() {
        for (int op = 0; op < 256; op++) {
            int length = lengthOf(op);
            if (op == 170 || op == 171 || op == 196) {
                continue;
            }
            String operands = op == 188 ? " 10" : " 0".repeat(Math.max(0, length - 1));
            if (length == 0) {
                code("none: " + op, 4, op + "; 177", 15, 0);
                code("none: " + op, 4, "0; 87; " + op + "; 0; 0; 0; 0; 177", 15, 2);
                code("none, and one behind it: " + op, 4, op + "; " + op, 15, 0);
                continue;
            }
            for (int n = 0; n < length - 1; n++) {
                StringBuilder cut = new StringBuilder("0; " + op);
                for (int i = 0; i < n; i++) {
                    cut.append("; ").append(op == 188 ? 10 : 0);
                }
                code(op + " with " + n + " bytes behind it", 4, cut.toString(), 15, 1);
            }
            // whole at the very end: 15 is kept, whatever it points to
            Kit.Klass k = klass("()V", 4, 4, "0");
            byte[] b = k.bytes();
            byte[] whole = Kit.insert(b, k.mark("code0") + 1, new int[length]);
            int stack = k.mark("stack0");
            whole = Kit.with(whole, k.mark("code0") + 1, op);
            if (op == 188) {
                whole = Kit.with(whole, k.mark("code0") + 2, 10);
            }
            whole = Kit.with(sized(whole, stack, 13 + length), stack + 7, 1 + length);
            CodeFoundry x = new CodeFoundry();
            int f = Kit.file(x, whole);
            Kit.due(op + operands + " whole", f == 0 || x.rule() == 16, true);
            Kit.due(op + operands + " has a length", f < 0 || x.length(0, 0) == 2, true);
        }
    }

    /** "196 wide: 21 22 25 54 55 58 U2, or 132 U2 and two bytes with sign". */
    private static void wideForms() {
        for (int op = 0; op < 256; op++) {
            boolean local = op == 21 || op == 22 || op == 25 || op == 54 || op == 55 || op == 58;
            if (local) {
                code("wide " + op, 2, "196; " + op + "; 0; 0; 177", 0, 0);
                code("wide " + op + " cut", 2, "177; 196; " + op + "; 0", 15, 1);
                code("wide " + op + " cut more", 2, "177; 196; " + op, 15, 1);
            } else if (op == 132) {
                code("wide 132", 2, "196; 132; 0; 0; 0; 0; 177", 0, 0);
                for (int n = 0; n < 4; n++) {
                    code("wide 132 cut", 2, "177; 196; 132" + "; 0".repeat(n), 15, 1);
                }
            } else {
                code("no wide " + op, 2, "177; 196; " + op + "; 0; 0; 0; 0; 177", 15, 1);
            }
        }
        code("wide alone", 2, "177; 196", 15, 1);
    }

    /** "188 10 (i: a) new ints". */
    private static void newIntsOnly() {
        for (int v = 0; v < 256; v++) {
            code("new " + v, 2, "4; 188; " + v + "; 87; 177", v == 10 ? 0 : 15, 1);
        }
    }

    private static String four(int v) {
        return (v >> 24 & 255) + "; " + (v >> 16 & 255) + "; " + (v >> 8 & 255) + "; " + (v & 255) + "; ";
    }

    /** "high - low is 0 .. 200". */
    private static void tables() {
        int[][] lowHigh = {{0, 0}, {0, 1}, {0, 199}, {0, 200}, {0, 201}, {1, 0}, {5, 4}, {-100, 100}, {-101, 100},
            {-100, 101}, {Integer.MIN_VALUE, Integer.MIN_VALUE}, {Integer.MIN_VALUE, Integer.MIN_VALUE + 200},
            {Integer.MIN_VALUE, Integer.MIN_VALUE + 201}, {Integer.MAX_VALUE - 200, Integer.MAX_VALUE},
            {Integer.MAX_VALUE - 201, Integer.MAX_VALUE}, {Integer.MAX_VALUE, Integer.MIN_VALUE},
            {Integer.MIN_VALUE, Integer.MAX_VALUE}, {Integer.MAX_VALUE, Integer.MAX_VALUE}, {-1, 199}, {-1, 200},
            {0, Integer.MAX_VALUE}, {0, -1}, {-1, Integer.MIN_VALUE}};
        for (int[] r : lowHigh) {
            long span = (long) r[1] - r[0];
            boolean good = span >= 0 && span <= 200;
            int offsets = good ? (int) span + 1 : 202;
            StringBuilder text = new StringBuilder("3; 170; 0; 0; " + four(-1) + four(r[0]) + four(r[1]));
            for (int i = 0; i < offsets; i++) {
                text.append(four(-1));
            }
            code("table " + r[0] + " .. " + r[1], 2, text + "177", good ? 0 : 15, 1);
            if (good) {
                // one byte less is not whole, wherever that byte is missing
                String whole = text.toString().trim();
                code("table without its last byte", 2, whole.substring(0, whole.lastIndexOf(';', whole.length() - 2)),
                        15, 1);
                code("table at the end", 2, whole.substring(0, whole.length() - 1), 0, 0);
            }
        }
        for (int n = 0; n < 18; n++) {
            code("table with " + n + " bytes", 2, "3; 170" + "; 0".repeat(n), 15, 1);
        }
        // all of it 0: the default and the only target are the switch itself
        code("table with 18 bytes", 2, "3; 170" + "; 0".repeat(18), 0, 0);
    }

    /** "171 .. n (0 .. 200), n pairs of a number (rising) and an offset"; 1200 bytes hold 148 of them. */
    private static void lookups() {
        for (int n : new int[] {0, 1, 2, 147, 148}) {
            StringBuilder text = new StringBuilder("3; 171; 0; 0; " + four(-1) + four(n));
            for (int i = 0; i < n; i++) {
                text.append(four(i * 7 - 300)).append(four(-1));
            }
            String whole = text.toString().trim();
            code(n + " pairs", 2, text + "177", 0, 0);
            code(n + " pairs at the end", 2, whole.substring(0, whole.length() - 1), 0, 0);
            code(n + " pairs without the last byte", 2,
                    whole.substring(0, whole.lastIndexOf(';', whole.length() - 2)), 15, 1);
        }
        for (int n : new int[] {-1, Integer.MIN_VALUE, 149, 150, 200, 201, Integer.MAX_VALUE, 1 << 29, 1 << 28, 1 << 30}) {
            StringBuilder text = new StringBuilder("3; 171; 0; 0; " + four(-1) + four(n));
            for (int i = 0; i < 148; i++) {
                text.append(four(i)).append(four(-1));
            }
            code(n + " pairs", 2, text.toString().trim(), 15, 1);
        }
        for (int n = 0; n < 10; n++) {
            code("pairs with " + n + " bytes", 2, "3; 171" + "; 0".repeat(n), 15, 1);
        }
        int[][] rows = {{0, 1}, {1, 0}, {0, 0}, {-1, 0}, {0, -1}, {Integer.MIN_VALUE, Integer.MAX_VALUE},
            {Integer.MAX_VALUE, Integer.MIN_VALUE}, {Integer.MIN_VALUE, Integer.MIN_VALUE},
            {Integer.MAX_VALUE, Integer.MAX_VALUE}, {1, 2, 3}, {1, 2, 2}, {1, 1, 2}, {1, 3, 2}, {2, 1, 3}, {-3, -2, -1},
            {Integer.MIN_VALUE, 0, Integer.MAX_VALUE}, {0, 1, 2, 3, 2}, {0, 1, 2, 3, 4}};
        for (int[] row : rows) {
            boolean rising = true;
            StringBuilder text = new StringBuilder("3; 171; 0; 0; " + four(-1) + four(row.length));
            for (int i = 0; i < row.length; i++) {
                rising &= i == 0 || row[i] > row[i - 1];
                text.append(four(row[i])).append(four(-1));
            }
            code("numbers " + Arrays.toString(row), 2, text + "177", rising ? 0 : 15, 1);
        }
    }

    /** "0 to 3 bytes (to a multiple of 4 from the code's beginning, they may be anything)". */
    private static void fill() {
        for (int before = 1; before <= 8; before++) {
            int bytes = 3 - before % 4;
            for (int v : new int[] {0, 1, 171, 255}) {
                String start = "3; " + "0; ".repeat(before - 1);
                String pad = (v + "; ").repeat(bytes);
                code("table behind " + before, 2, start + "170; " + pad + four(-before) + four(0) + four(0)
                        + four(-before) + "177", 0, 0);
                code("pairs behind " + before, 2, start + "171; " + pad + four(-before) + four(0) + "177", 0, 0);
            }
        }
    }

    /** "Rule 16: jumps go to instructions"; "L two bytes with sign, added to the instruction's own offset". */
    private static void jumps() {
        // offsets 0: nop, 1: push of two bytes, 3: the jump, 6: nop, 7: return
        int[] starts = {0, 1, 3, 6, 7};
        for (int op : new int[] {153, 154, 155, 156, 157, 158, 159, 160, 161, 162, 163, 164, 165, 166, 167, 198, 199}) {
            for (int target = -2; target <= 10; target++) {
                int offset = target - 3;
                boolean good = Arrays.binarySearch(starts, target) >= 0;
                code(op + " to " + target, 2, "0; 16 5; " + op + "; " + (offset >> 8 & 255) + "; " + (offset & 255)
                        + "; 0; 177", good ? 0 : 16, 3);
            }
            code(op + " far", 2, "0; 16 5; " + op + "; 127; 255; 0; 177", 16, 3);
            code(op + " far back", 2, "0; 16 5; " + op + "; 128; 0; 0; 177", 16, 3);
        }
        // the same with four bytes: 3: the jump, 8: nop, 9: return
        int[] wide = {0, 1, 3, 8, 9};
        for (int target = -2; target <= 12; target++) {
            boolean good = Arrays.binarySearch(wide, target) >= 0;
            code("200 to " + target, 2, "0; 16 5; 200; " + four(target - 3) + "0; 177", good ? 0 : 16, 3);
        }
        for (int offset : new int[] {Integer.MAX_VALUE, Integer.MIN_VALUE, 65536, -65536, 65536 + 5, 1 << 24}) {
            code("200 by " + offset, 2, "0; 16 5; 200; " + four(offset) + "0; 177", 16, 3);
        }
        // switches: 0: push, 1: the switch, 24 (or 20): nop, return behind it
        for (int target = -2; target <= 28; target++) {
            boolean good = target == 0 || target == 1 || target == 24 || target == 25;
            String table = "3; 170; 0; 0; ";
            code("default to " + target, 2, table + four(target - 1) + four(7) + four(8) + four(-1) + four(-1)
                    + "0; 177", good ? 0 : 16, 1);
            code("first to " + target, 2, table + four(-1) + four(7) + four(8) + four(target - 1) + four(-1)
                    + "0; 177", good ? 0 : 16, 1);
            code("last to " + target, 2, table + four(-1) + four(7) + four(8) + four(-1) + four(target - 1)
                    + "0; 177", good ? 0 : 16, 1);
            boolean fine = target == 0 || target == 1 || target == 28 || target == 29;
            String pairs = "3; 171; 0; 0; ";
            code("default to " + target, 2, pairs + four(target - 1) + four(2) + four(1) + four(-1) + four(2)
                    + four(-1) + "0; 177", fine ? 0 : 16, 1);
            code("first to " + target, 2, pairs + four(-1) + four(2) + four(1) + four(target - 1) + four(2) + four(-1)
                    + "0; 177", fine ? 0 : 16, 1);
            code("last to " + target, 2, pairs + four(-1) + four(2) + four(1) + four(-1) + four(2) + four(target - 1)
                    + "0; 177", fine ? 0 : 16, 1);
        }
        code("a target beyond any int", 2, "3; 170; 0; 0; " + four(Integer.MAX_VALUE) + four(0) + four(0) + four(-1)
                + "177", 16, 1);
        // in 1200 bytes: from the first to the last and back
        code("far on", 2, "167 @e; " + "0; ".repeat(1196) + "e: 177", 0, 0);
        code("far back", 2, "a: 0; " + "0; ".repeat(1196) + "167 @a", 0, 0);
    }

    /** "locals are below MOST LOCALS (of a long its second place too)". */
    private static void locals() {
        for (int most : new int[] {0, 1, 2, 3, 4, 5, 23, 24}) {
            for (int k = 0; k <= 25; k++) {
                boolean one = k < most;
                boolean two = k + 1 < most;
                for (int op : new int[] {21, 25, 54, 58}) {
                    code(op + " " + k + " of " + most, most, "0; " + op + " " + k + "; 177", one ? 0 : 16, 1);
                    code("wide " + op + " " + k + " of " + most, most, "0; 196 " + op + " " + k + "; 177",
                            one ? 0 : 16, 1);
                }
                for (int op : new int[] {22, 55}) {
                    code(op + " " + k + " of " + most, most, "0; " + op + " " + k + "; 177", two ? 0 : 16, 1);
                    code("wide " + op + " " + k + " of " + most, most, "0; 196 " + op + " " + k + "; 177",
                            two ? 0 : 16, 1);
                }
                code("132 " + k + " of " + most, most, "0; 132 " + k + " 1; 177", one ? 0 : 16, 1);
                code("wide 132 " + k + " of " + most, most, "0; 196 132 " + k + " 1; 177", one ? 0 : 16, 1);
                if (k < 4) {
                    for (int op : new int[] {26, 42, 59, 75}) {
                        code(op + k + " of " + most, most, "0; " + (op + k) + "; 177", one ? 0 : 16, 1);
                    }
                    for (int op : new int[] {30, 63}) {
                        code(op + k + " of " + most, most, "0; " + (op + k) + "; 177", two ? 0 : 16, 1);
                    }
                }
            }
        }
        for (int k : new int[] {127, 128, 254, 255}) {
            for (int op : new int[] {21, 22, 25, 54, 55, 58}) {
                code(op + " " + k, 24, op + " " + k + "; 177", 16, 0);
            }
            code("132 " + k, 24, "132 " + k + " 0; 177", 16, 0);
        }
        // U2 without sign, and not its lower byte alone
        for (int k : new int[] {255, 256, 257, 279, 32767, 32768, 65279, 65280, 65535}) {
            for (int op : new int[] {21, 22, 25, 54, 55, 58}) {
                code("wide " + op + " " + k, 24, "196 " + op + " " + k + "; 177", 16, 0);
            }
            code("wide 132 " + k, 24, "196 132 " + k + " 1; 177", 16, 0);
            code("wide 132 " + k, 24, "196 132 " + k + " -1; 177", 16, 0);
        }
    }

    /** "18 19 20 tell their sort"; "18 b, 19 U2: the int of the pool, 20 U2: the long of the pool". */
    private static void poolNumbers() {
        Kit.Klass k = klass("()V", 4, 0, "18 0; 19 0; 20 0; 177");
        int number = k.intEntry(70000);
        int wide = k.longEntry(70000);
        k.memberEntry(9, "Main", "x", "I");
        byte[] b = k.bytes();
        int code = k.mark("code0");
        int last = b[8] << 8 | b[9] & 255;
        byte[] good = Kit.with(b, code + 1, number, 19, 0, number, 20, 0, wide);
        Kit.sound("their sorts", good);
        for (int v = 0; v < last + 2; v++) {
            if (v != number) {
                Kit.broken("18 " + v, Kit.with(good, code + 1, v), 16, code);
                Kit.broken("19 " + v, Kit.with(good, code + 3, 0, v), 16, code + 2);
            }
            if (v != wide) {
                Kit.broken("20 " + v, Kit.with(good, code + 6, 0, v), 16, code + 5);
            }
        }
        Kit.broken("19 of the lower byte", Kit.with(good, code + 3, 1, number), 16, code + 2);
        Kit.broken("20 of the lower byte", Kit.with(good, code + 6, 255, wide), 16, code + 5);
        // b is U1 without sign: entry 255 by 18, 256 by 19
        Kit.Klass many = klass("()I", 2, 0, "18 255; 19 256; 100; 172");
        int first = many.intEntry(1000000);
        for (int i = first + 1; i <= 499; i++) {
            many.intEntry(1000000 + 7 * (i - first));
        }
        CodeFoundry x = Kit.staged(many);
        Kit.due("run", x.run(0, 10), 0);
        Kit.due("result()", x.result(), -7);
        Kit.Klass end = klass("()I", 2, 0, "19 499; 172");
        first = end.intEntry(1000000);
        for (int i = first + 1; i <= 499; i++) {
            end.intEntry(1000000 + 7 * (i - first));
        }
        x = Kit.staged(end);
        Kit.due("run", x.run(0, 10), 0);
        Kit.due("result()", x.result(), 1000000 + 7 * (499 - first));
        byte[] c = end.bytes();
        int at = end.mark("code0");
        Kit.broken("19 500", Kit.with(c, at + 1, 1, 244), 16, at);
    }

    /** "178 179 184 a FIELD or METHOD whose CLASS is this one's (by name) and which it has, with that type". */
    private static void members() {
        for (int op : new int[] {178, 179}) {
            code(op + " x I", 0, "0; " + op + " field:x:I; 177", 0, 0);
            code(op + " y J", 0, "0; " + op + " field:y:J; 177", 0, 0);
            code(op + " x J", 0, "0; " + op + " field:x:J; 177", 16, 1);
            code(op + " y I", 0, "0; " + op + " field:y:I; 177", 16, 1);
            code(op + " y [I", 0, "0; " + op + " field:y:[I; 177", 16, 1);
            code(op + " xx I", 0, "0; " + op + " field:xx:I; 177", 16, 1);
            code(op + " m ()V", 0, "0; " + op + " call:m:()V; 177", 16, 1);
            code(op + " of another class", 0, "0; " + op + " otherField:x:I; 177", 16, 1);
            code(op + " 0", 0, "0; " + op + " 0; 177", 16, 1);
            code(op + " 1", 0, "0; " + op + " 1; 177", 16, 1);
            code(op + " 499", 0, "0; " + op + " 499; 177", 16, 1);
            code(op + " 65535", 0, "0; " + op + " 65535; 177", 16, 1);
        }
        code("184 m ()V", 0, "0; 184 call:m:()V; 177", 0, 0);
        code("184 m ()I", 0, "0; 184 call:m:()I; 177", 16, 1);
        code("184 m (I)V", 0, "0; 184 call:m:(I)V; 177", 16, 1);
        code("184 mm ()V", 0, "0; 184 call:mm:()V; 177", 16, 1);
        code("184 m, 9 places", 0, "0; 184 call:m:(JJJJI)V; 177", 16, 1);
        code("184 x I", 0, "0; 184 field:x:I; 177", 16, 1);
        code("184 0", 0, "0; 184 0; 177", 16, 1);
        Kit.Klass k = klass("()V", 4, 0, "184 call:m:()V; 177");
        int other = k.memberEntry(10, "Mail", "m", "()V");
        int longer = k.memberEntry(10, "Mains", "m", "()V");
        int shorter = k.memberEntry(10, "Mai", "m", "()V");
        // the class, the name and the type by other entries with the same bytes
        int name = k.raw("Main again", 1, 0, 4, 'M', 'a', 'i', 'n');
        int own = k.raw("class again", 7, name >> 8, name);
        int m = k.raw("m again", 1, 0, 1, 'm');
        int type = k.raw("type again", 1, 0, 3, '(', ')', 'V');
        int pair = k.raw("pair again", 12, m >> 8, m, type >> 8, type);
        int again = k.raw("again", 10, own >> 8, own, pair >> 8, pair);
        byte[] b = k.bytes();
        int code = k.mark("code0");
        Kit.sound("as it is", b);
        Kit.sound("by its name", Kit.with(b, code + 1, again >> 8, again));
        for (int v : new int[] {other, longer, shorter}) {
            Kit.broken("another class", Kit.with(b, code + 1, v >> 8, v), 16, code);
        }
        // an int with the bytes of a METHOD, or of a FIELD, is none
        Kit.Klass l = klass("()V", 4, 0, "178 field:x:I; 87; 184 call:m:()V; 177");
        int likeField = l.intEntry(l.classEntry("Main") << 16 | l.pairEntry("x", "I"));
        int likeMethod = l.intEntry(l.classEntry("Main") << 16 | l.pairEntry("m", "()V"));
        int likePair = l.pairEntry("x", "I");
        byte[] c = l.bytes();
        int at = l.mark("code0");
        Kit.sound("as it is", c);
        Kit.broken("an int like a FIELD", Kit.with(c, at + 1, 0, likeField), 16, at);
        Kit.broken("an int like a METHOD", Kit.with(c, at + 5, 0, likeMethod), 16, at + 4);
        Kit.broken("a PAIR", Kit.with(c, at + 1, 0, likePair), 16, at);
        Kit.broken("the class above is another one", Kit.with(b, k.mark("entry" + again) + 2, k.classEntry("Top")),
                0, -1);
        Kit.broken("and so is its method", Kit.with(Kit.with(b, k.mark("entry" + again) + 2, k.classEntry("Top")),
                code + 1, again >> 8, again), 16, code);
    }

    /** "a catch: from, to, at are instructions (to perhaps the end), from below to, its CLASS is 0 or one of ..". */
    private static void catches() {
        // offsets 0 nop, 1 two bytes, 3 pop, 4 return, and 5 the end
        Kit.Klass k = klass("()V", 1, 0, "a: 0; 16 7; 87; b: 177", "a b a 0", "a b a 0");
        int named = k.classEntry("Error");
        int[] errors = {k.classEntry("DivideError"), k.classEntry("NullError"), k.classEntry("IndexError"),
            k.classEntry("SizeError")};
        int[] almost = {k.classEntry("Divideerror"), k.classEntry("NullErro"), k.classEntry("IndexErrors"), named,
            k.nameEntry("NullError"), k.classEntry("Main"), 499, 500, 65535};
        byte[] b = k.bytes();
        int first = k.mark("catches0") + 2;
        for (int c = 0; c < 2; c++) {
            int at = first + 8 * c;
            for (int from = 0; from <= 7; from++) {
                for (int to = 0; to <= 7; to++) {
                    boolean good = starts(from) && (starts(to) || to == 5) && from < to;
                    Kit.broken("from " + from + " to " + to, Kit.with(b, at, 0, from, 0, to), good ? 0 : 16,
                            good ? -1 : at);
                }
            }
            for (int v = 0; v <= 7; v++) {
                Kit.broken("at " + v, Kit.with(b, at + 4, 0, v), starts(v) ? 0 : 16, starts(v) ? -1 : at);
            }
            Kit.broken("from 256", Kit.with(b, at, 1, 0), 16, at);
            Kit.broken("to 65535", Kit.with(b, at + 2, 255, 255), 16, at);
            Kit.broken("to 256", Kit.with(b, at + 2, 1, 0), 16, at);
            Kit.broken("at 32768", Kit.with(b, at + 4, 128, 0), 16, at);
            for (int e : errors) {
                Kit.sound("error " + e, Kit.with(b, at + 6, e >> 8, e));
            }
            for (int e : almost) {
                Kit.broken("no error " + e, Kit.with(b, at + 6, e >> 8, e), 16, at);
            }
        }
        Kit.broken("both, from the left", Kit.with(Kit.with(b, first, 0, 2), first + 8, 0, 2), 16, first);
        Kit.broken("instructions first", Kit.with(Kit.with(b, first, 0, 2), k.mark("code0") + 3, 59), 16,
                k.mark("code0") + 3);
        // the greatest code: its last byte, and its end
        Kit.Klass big = klass("()V", 1, 0, "a: " + "0; ".repeat(1199) + "b: 177; e:", "a e b 0", "b e a 0");
        Kit.sound("to 1200", big.bytes());
    }

    private static boolean starts(int offset) {
        return offset == 0 || offset == 1 || offset == 3 || offset == 4;
    }

    private static void push(String code, long want) {
        boolean wide = code.startsWith("20 ") || code.equals("9") || code.equals("10");
        CodeFoundry x = Kit.staged(klass(wide ? "()J" : "()I", 2, 0, code + (wide ? "; 173" : "; 172")));
        Kit.due(code + ": run", x.run(0, 10), 0);
        Kit.due(code, x.result(), want);
    }

    /** "2 .. 8 push -1 .. 5; 9 10 push 0 1; 16 s push; 17 two bytes with sign; 18 19 20 the pool's". */
    private static void pushes() {
        for (int v = -1; v <= 5; v++) {
            push(String.valueOf(v + 3), v);
        }
        push("9", 0);
        push("10", 1);
        for (int v : new int[] {-128, -127, -1, 0, 1, 126, 127}) {
            push("16 " + v, v);
        }
        for (int v : new int[] {-32768, -32767, -129, -128, -1, 0, 1, 127, 128, 255, 256, 32766, 32767}) {
            push("17 " + v, v);
        }
        for (int v : new int[] {Integer.MIN_VALUE, -32769, -1, 0, 1, 32768, 65535, 65536, Integer.MAX_VALUE}) {
            push("18 int:" + v, v);
            push("19 int:" + v, v);
        }
        for (long v : new long[] {Long.MIN_VALUE, -1L << 32, -1, 0, 1, 2, 0xffffffffL, 1L << 32, 1L << 31, -1L << 31,
            0x123456789abcdefL, Long.MAX_VALUE}) {
            push("20 long:" + v, v);
        }
    }

    /** How many instructions there are: each form is one. */
    private static void lengths() {
        CodeFoundry x = new CodeFoundry();
        Kit.Klass k = klass("()V", 2, 8, "3; 196 54 5; 196 132 5 -300; 132 5 1; 16 3; 170 @a 0 @a @a @a; a: 18 int:9; "
                + "171 @b 1 @b; b: 200 @c; c: 188 10; 184 call:m:()V; 178 field:x:I; 177");
        Kit.due("file()", Kit.file(x, k.bytes()), 0);
        Kit.due("length(0, 0)", x.length(0, 0), 13);
        Kit.due("size(0, 3)", x.size(0, 3), 13);
    }
}
