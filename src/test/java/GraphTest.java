import java.util.HashSet;
import java.util.Random;
import java.util.Set;

/** Promises 25 to 27: blocks, block, edge. */
public final class GraphTest {
    public static void main(String[] args) {
        answers();
        diamond();
        loops();
        selfLoop();
        twoWaysIn();
        handlers();
        unreached();
        switches();
        byTheWords();
        Kit.finish("GraphTest");
    }

    private static CodeFoundry read(String code, String... handlers) {
        CodeFoundry x = new CodeFoundry();
        Kit.due(code, Kit.file(x, new Kit.Klass().method("m", "(I)V", 4, 4, code, handlers).bytes()), 0);
        return x;
    }

    private static void block(CodeFoundry x, int b, int... want) {
        for (int what = 0; what < want.length; what++) {
            Kit.due("block(0, 0, " + b + ", " + what + ")", x.block(0, 0, b, what), want[what]);
        }
    }

    private static void edges(CodeFoundry x, int a, int... to) {
        Set<Integer> want = new HashSet<>();
        for (int b : to) {
            want.add(b);
        }
        for (int b = -1; b <= x.blocks(0, 0); b++) {
            Kit.due("edge(0, 0, " + a + ", " + b + ")", x.edge(0, 0, a, b), want.contains(b));
        }
    }

    private static void answers() {
        CodeFoundry x = read("26; 153 @a; 177; a: 177");
        Kit.due("blocks(0, 0), not checked", x.blocks(0, 0), 3);
        Kit.due("blocks(0, 1)", x.blocks(0, 1), -1);
        Kit.due("blocks(0, -1)", x.blocks(0, -1), -1);
        Kit.due("blocks(1, 0)", x.blocks(1, 0), -1);
        Kit.due("block(0, 0, 3, 0)", x.block(0, 0, 3, 0), -1);
        Kit.due("block(0, 0, -1, 0)", x.block(0, 0, -1, 0), -1);
        Kit.due("block(0, 0, 0, 6)", x.block(0, 0, 0, 6), -1);
        Kit.due("block(0, 0, 0, -1)", x.block(0, 0, 0, -1), -1);
        Kit.due("block(0, 1, 0, 0)", x.block(0, 1, 0, 0), -1);
        Kit.due("block(1, 0, 0, 0)", x.block(1, 0, 0, 0), -1);
        Kit.due("edge(0, 0, 0, 1)", x.edge(0, 0, 0, 1), true);
        Kit.due("edge(0, 0, 0, 3)", x.edge(0, 0, 0, 3), false);
        Kit.due("edge(0, 0, 3, 0)", x.edge(0, 0, 3, 0), false);
        Kit.due("edge(0, 0, -1, 0)", x.edge(0, 0, -1, 0), false);
        Kit.due("edge(0, 1, 0, 1)", x.edge(0, 1, 0, 1), false);
        Kit.due("edge(1, 0, 0, 1)", x.edge(1, 0, 0, 1), false);
        CodeFoundry y = new CodeFoundry();
        Kit.Klass k = new Kit.Klass().method("a", "()V", 4, 4, "167 @b; b: 177").method("b", "()V", 1, 0, "177");
        Kit.due("file()", Kit.file(y, k.bytes()), 0);
        Kit.due("blocks(0, 0)", y.blocks(0, 0), 2);
        Kit.due("blocks(0, 1)", y.blocks(0, 1), 1);
        Kit.due("block(0, 0, 1, 0)", y.block(0, 0, 1, 0), 1);
        Kit.due("falls off the end", read("0; 0").blocks(0, 0), 1);
        edges(read("0; 26; 153 @a; a: 0"), 1);
    }

    private static void diamond() {
        CodeFoundry x = read("26; 153 @a; 4; 60; 167 @b; a: 5; 60; b: 27; 87; 177");
        Kit.due("blocks(0, 0)", x.blocks(0, 0), 4);
        block(x, 0, 0, 1, -1, 0, 0, 2);
        block(x, 1, 2, 1, 0, 0, 0, 1);
        block(x, 2, 5, 1, 0, 0, 0, 1);
        block(x, 3, 7, 1, 0, 0, 0, 0);
        edges(x, 0, 1, 2);
        edges(x, 1, 3);
        edges(x, 2, 3);
        edges(x, 3);
    }

    private static void loops() {
        // 0 -> 1 (head) -> 2 (head) -> 3 -> 2, 2 -> 4 -> 1, 1 -> 5
        CodeFoundry x = read("0; a: 26; 153 @e; b: 26; 154 @d; 0; 167 @b; d: 0; 167 @a; e: 177");
        Kit.due("blocks(0, 0)", x.blocks(0, 0), 6);
        block(x, 0, 0, 1, -1, 0, 0, 1);
        block(x, 1, 1, 1, 0, 1, 1, 2);
        block(x, 2, 3, 1, 1, 1, 2, 2);
        block(x, 3, 5, 1, 2, 0, 2, 1);
        block(x, 4, 7, 1, 2, 0, 1, 1);
        block(x, 5, 9, 1, 1, 0, 0, 0);
        // two ways back to one head are one loop
        x = read("a: 26; 153 @a; 26; 154 @b; 167 @a; b: 177");
        block(x, 0, 0, 1, -1, 1, 1, 2);
        block(x, 1, 2, 1, 0, 0, 1, 2);
        block(x, 2, 4, 1, 1, 0, 1, 1);
        block(x, 3, 5, 1, 1, 0, 0, 0);
    }

    private static void selfLoop() {
        CodeFoundry x = read("0; 167 @a; a: 26; 153 @a; 177");
        block(x, 0, 0, 1, -1, 0, 0, 1);
        block(x, 1, 2, 1, 0, 1, 1, 2);
        block(x, 2, 4, 1, 1, 0, 0, 0);
        edges(x, 1, 1, 2);
        // a jump to the next: one edge for both
        x = read("26; 153 @a; a: 177");
        block(x, 0, 0, 1, -1, 0, 0, 1);
    }

    private static void twoWaysIn() {
        // 1 and 2 go to one another and both are come to from 0: no head
        CodeFoundry x = read("26; 153 @b; a: 26; 153 @b; 177; b: 26; 153 @a; 177");
        for (int b = 0; b < x.blocks(0, 0); b++) {
            Kit.due("head " + b, x.block(0, 0, b, 3), 0);
            Kit.due("depth " + b, x.block(0, 0, b, 4), 0);
        }
        Kit.due("dominator", x.block(0, 0, 1, 2), 0);
        Kit.due("dominator", x.block(0, 0, 3, 2), 0);
    }

    private static void handlers() {
        CodeFoundry x = read("0; a: 4; 87; 26; 153 @c; 0; c: 0; b: 177; h: 87; 177; e:", "a b h 0", "c e h SizeError");
        Kit.due("blocks(0, 0)", x.blocks(0, 0), 6);
        edges(x, 0, 1);
        edges(x, 1, 2, 3, 5);
        edges(x, 2, 3, 5);
        edges(x, 3, 4, 5);
        edges(x, 4, 5);
        edges(x, 5, 5);
        block(x, 1, 1, 1, 0, 0, 0, 3);
        block(x, 3, 6, 1, 1, 0, 0, 2);
        block(x, 5, 8, 1, 1, 1, 1, 1);
        // a range that ends at the end, and one that splits straight code
        x = read("0; a: 0; b: 0; 177; h: 191; e:", "a b h 0", "b e h 0");
        Kit.due("blocks(0, 0)", x.blocks(0, 0), 4);
        edges(x, 0, 1);
        edges(x, 1, 2, 3);
        edges(x, 2, 3);
        edges(x, 3, 3);
    }

    private static void unreached() {
        CodeFoundry x = read("167 @b; a: 0; 167 @b; b: 26; 153 @c; 0; c: 177; d: 167 @d; f: 167 @b; g: 0; 177");
        Kit.due("blocks(0, 0)", x.blocks(0, 0), 8);
        block(x, 1, 1, 0, -1, 0, 0, 1);
        block(x, 2, 3, 1, 0, 0, 0, 2);
        block(x, 5, 7, 0, -1, 0, 0, 1);
        block(x, 6, 8, 0, -1, 0, 0, 1);
        block(x, 7, 9, 0, -1, 0, 0, 0);
        edges(x, 1, 2);
        edges(x, 5, 5);
        edges(x, 6, 2);
    }

    private static void switches() {
        CodeFoundry x = read("26; 170 @a 0 @b @a @b @c; a: 177; b: 26; 171 @a 5 @b; c: 177");
        Kit.due("blocks(0, 0)", x.blocks(0, 0), 4);
        block(x, 0, 0, 1, -1, 0, 0, 3);
        block(x, 2, 3, 1, 0, 1, 1, 2);
        edges(x, 0, 1, 2, 3);
        edges(x, 2, 1, 2);
    }

    /** Graphs by chance, with dominators and loops worked out from the words alone. */
    private static void byTheWords() {
        Random random = new Random(7);
        for (int t = 0; t < 60; t++) {
            int n = 2 + random.nextInt(9);
            StringBuilder code = new StringBuilder();
            for (int b = 0; b < n; b++) {
                code.append("L").append(b).append(": 26; ");
                int a = random.nextInt(n);
                switch (random.nextInt(4)) {
                    case 0: code.append("153 @L").append(a).append("; "); break;
                    case 1: code.append("87; 167 @L").append(a).append("; "); break;
                    case 2: code.append("171 @L").append(a).append(" 3 @L").append(random.nextInt(n)).append("; "); break;
                    default: code.append("87; "); break;
                }
            }
            CodeFoundry x = read(code + "177");
            compare(x);
        }
    }

    private static void compare(CodeFoundry x) {
        int n = x.blocks(0, 0);
        boolean[][] edge = new boolean[n][n];
        for (int a = 0; a < n; a++) {
            for (int b = 0; b < n; b++) {
                edge[a][b] = x.edge(0, 0, a, b);
            }
        }
        boolean[] reached = from(edge, 0, -1);
        boolean[][] dominates = new boolean[n][n];
        for (int b = 0; b < n; b++) {
            boolean[] without = from(edge, 0, b);
            for (int c = 0; c < n; c++) {
                dominates[b][c] = reached[b] && reached[c] && !without[c];
            }
        }
        int[] depth = new int[n];
        for (int h = 0; h < n; h++) {
            boolean head = false;
            boolean[] loop = new boolean[n];
            for (int t = 0; t < n; t++) {
                if (edge[t][h] && dominates[h][t]) {
                    head = true;
                    loop[h] = true;
                    for (int b = 0; b < n; b++) {
                        loop[b] |= b != h && reached[b] && from(edge, b, h)[t];
                    }
                }
            }
            for (int b = 0; b < n; b++) {
                depth[b] += loop[b] ? 1 : 0;
            }
            Kit.due("head " + h, x.block(0, 0, h, 3), head ? 1 : 0);
        }
        for (int c = 0; c < n; c++) {
            Kit.due("reached " + c, x.block(0, 0, c, 1), reached[c] ? 1 : 0);
            Kit.due("depth " + c, x.block(0, 0, c, 4), depth[c]);
            int dominator = -1;
            for (int d = 0; d < n; d++) {
                boolean nearest = d != c && dominates[d][c];
                for (int o = 0; o < n && nearest; o++) {
                    nearest = o == c || !dominates[o][c] || dominates[o][d];
                }
                dominator = nearest ? d : dominator;
            }
            Kit.due("dominator of " + c, x.block(0, 0, c, 2), dominator);
        }
    }

    private static boolean[] from(boolean[][] edge, int start, int without) {
        boolean[] seen = new boolean[edge.length];
        if (start == without) {
            return seen;
        }
        seen[start] = true;
        for (boolean changed = true; changed;) {
            changed = false;
            for (int a = 0; a < edge.length; a++) {
                for (int b = 0; b < edge.length; b++) {
                    if (seen[a] && edge[a][b] && !seen[b] && b != without) {
                        seen[b] = true;
                        changed = true;
                    }
                }
            }
        }
        return seen;
    }
}
