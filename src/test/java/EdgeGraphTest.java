import java.util.Random;
import java.util.TreeSet;

/** The edges of term 5, GRAPHS, and of promises 25 to 27. */
public final class EdgeGraphTest {
    public static void main(String[] args) {
        beginnings();
        edgesOnce();
        catchEdges();
        ends();
        dominators();
        heads();
        depths();
        unreached();
        longChains();
        deepNests();
        manyBlocks();
        twiceAsMany();
        largeByTheWords();
        answers();
        Kit.finish("EdgeGraphTest");
    }

    private static CodeFoundry read(String code, String... handlers) {
        CodeFoundry x = new CodeFoundry();
        Kit.Klass k = new Kit.Klass().field("i", "I").method("m", "(I)V", 8, 8, code, handlers);
        Kit.due(code + ": file()", Kit.file(x, k.bytes()), 0);
        return x;
    }

    /** The instructions at which blocks begin. */
    private static CodeFoundry begin(String code, String handler, int... starts) {
        CodeFoundry x = handler == null ? read(code) : read(code, handler.split(","));
        Kit.due(code + ": blocks", x.blocks(0, 0), starts.length);
        for (int b = 0; b < starts.length; b++) {
            Kit.due(code + ": block " + b, x.block(0, 0, b, 0), starts[b]);
        }
        Kit.due(code + ": no block", x.block(0, 0, starts.length, 0), -1);
        return x;
    }

    private static void edges(CodeFoundry x, int a, int... to) {
        TreeSet<Integer> want = new TreeSet<>();
        for (int b : to) {
            want.add(b);
        }
        for (int b = -1; b <= x.blocks(0, 0); b++) {
            Kit.due("edge(0, 0, " + a + ", " + b + ")", x.edge(0, 0, a, b), want.contains(b));
        }
        Kit.due("edges of " + a, x.block(0, 0, a, 5), want.size());
    }

    /** "they begin at the first instruction, at targets .., at AT, FROM and TO of catches, and behind jumps ..". */
    private static void beginnings() {
        begin("177", null, 0);
        begin("0; 0; 0; 177", null, 0);
        for (String jump : new String[] {"153", "154", "155", "156", "157", "158", "159", "160", "161", "162", "163",
            "164", "165", "166", "167", "198", "199", "200"}) {
            begin("0; " + jump + " @z; 0; 0; z: 0; 177", null, 0, 2, 4);
            begin("0; z: 0; 0; " + jump + " @z; 0; 177", null, 0, 1, 4);
            begin("z: 0; 0; " + jump + " @z; 177", null, 0, 3);
            begin("0; z: " + jump + " @z; 177", null, 0, 1, 2);
            // a jump at the end: nothing begins behind it
            begin("z: 0; " + jump + " @z", null, 0);
        }
        begin("0; 170 @a 0 @b @c; 0; a: 0; 0; b: 0; 0; c: 0; 177", null, 0, 2, 3, 5, 7);
        begin("0; 171 @a 1 @b 2 @c; 0; a: 0; 0; b: 0; 0; c: 0; 177", null, 0, 2, 3, 5, 7);
        begin("0; a: 0; 171 @a", null, 0, 1);
        begin("170 @a 0 @b @b; a: 0; b: 177", null, 0, 1, 2);
        begin("171 @a 4 @b 5 @b; a: 0; b: 177", null, 0, 1, 2);
        for (String end : new String[] {"172", "173", "176", "177", "191"}) {
            begin("0; " + end + "; 0; 177", null, 0, 2);
            begin("0; " + end, null, 0);
        }
        // a call, or what can raise an error, ends no block
        begin("26; 26; 108; 87; 184 call:m:(I)V; 178 field:i:I; 87; 177", null, 0);
        // catches: FROM, TO and AT each by itself
        begin("0; f: 0; 0; t: 0; 177; 0; h: 0; 177", "f t h 0", 0, 1, 3, 5, 6);
        begin("f: 0; 0; t: 0; 0; h: 0; 0; 177", "f t h 0", 0, 2, 4);
        begin("0; f: 0; 0; h: 0; 0; 177; t:", "f t h 0", 0, 1, 3);
        begin("f: h: 0; 0; 177; t:", "f t h 0", 0);
        begin("0; 0; f: h: 0; t: 0; 177", "f t h 0", 0, 2, 3);
        begin("0; f: 0; g: 0; t: 0; u: 0; h: 0; 177", "f t h 0,g u h SizeError", 0, 1, 2, 3, 4, 5);
    }

    /** "how many edges it has, those to the same block once". */
    private static void edgesOnce() {
        edges(read("26; 153 @a; a: 177"), 0, 1);
        edges(read("26; 170 @a 0 @a @a @a; a: 177"), 0, 1);
        edges(read("26; 170 @a 0 @b @a @b; a: 0; b: 177"), 0, 1, 2);
        edges(read("26; 171 @b 1 @a 5 @b 9 @a; a: 0; b: 177"), 0, 1, 2);
        edges(read("z: 26; 171 @z 1 @z"), 0, 0);
        edges(read("f: 26; 153 @h; h: 177; e:", "f e h 0", "f h h SizeError"), 0, 1);
        edges(read("f: 167 @h; h: 191; e:", "f e h 0"), 1, 1);
        StringBuilder wide = new StringBuilder("26; 170 @L0 0");
        for (int i = 0; i <= 200; i++) {
            wide.append(" @L").append(i);
        }
        for (int i = 0; i <= 200; i++) {
            wide.append("; L").append(i).append(": 0");
        }
        CodeFoundry x = read(wide + "; 177");
        Kit.due("201 edges", x.block(0, 0, 0, 5), 201);
        Kit.due("202 blocks", x.blocks(0, 0), 202);
        Kit.due("the last", x.edge(0, 0, 0, 201), true);
        Kit.due("itself", x.edge(0, 0, 0, 0), false);
    }

    /** "and, from each block in a catch's range, to AT". */
    private static void catchEdges() {
        // blocks 0 before, 1 2 3 in the range, 4 behind, 5 AT; the returns and gotos in it have the edge too
        CodeFoundry x = read("0; f: 0; 177; 0; 167 @t; 0; 191; t: 0; 177; h: 87; 177", "f t h 0");
        edges(x, 0, 1);
        edges(x, 1, 5);
        edges(x, 2, 4, 5);
        edges(x, 3, 5);
        edges(x, 4);
        edges(x, 5);
        // several catches, to the end; AT before the range
        x = read("167 @f; h: 87; 177; g: 87; 177; f: 0; t: 177; e:", "f t h 0", "f e g NullError");
        edges(x, 0, 3);
        edges(x, 3, 1, 2, 4);
        edges(x, 4, 2);
        // not reached, but told all the same
        x = read("177; f: 0; t: 177; h: 87; 177", "f t h 0");
        edges(x, 1, 2, 3);
        Kit.due("not reached", x.block(0, 0, 3, 1), 0);
    }

    /** "to the next one where it goes on": the last block has no next one. */
    private static void ends() {
        edges(read("0; 0"), 0);
        edges(read("z: 26; 153 @z"), 0, 0);
        edges(read("26; 153 @a; 0; a: 0"), 2);
        edges(read("f: 0; 0; e:", "f e f 0"), 0, 0);
    }

    private static void dominator(CodeFoundry x, int... want) {
        for (int b = 0; b < want.length; b++) {
            Kit.due("dominator of " + b, x.block(0, 0, b, 2), want[b]);
        }
    }

    private static void dominators() {
        dominator(read("177"), -1);
        // the first block has none, though an edge comes back to it
        dominator(read("z: 26; 153 @z; 167 @z"), -1, 0);
        // straight on: the nearest, not the first
        dominator(read("167 @a; a: 167 @b; b: 167 @c; c: 177"), -1, 0, 1, 2);
        // two ways that meet, and one more way around both
        dominator(read("26; 153 @b; a: 0; 167 @c; b: 0; c: 177"), -1, 0, 0, 0);
        dominator(read("26; 153 @d; 26; 153 @b; a: 0; 167 @c; b: 0; c: 0; d: 177"), -1, 0, 1, 1, 1, 0);
        // edges from blocks that are not reached do not count
        dominator(read("26; 153 @b; 0; 177; a: 167 @b; b: 177"), -1, 0, -1, 0);
        dominator(read("167 @a; x: 167 @b; a: 0; 167 @b; b: 177"), -1, -1, 0, 2);
    }

    private static void heads(CodeFoundry x, int... want) {
        for (int b = 0; b < want.length; b++) {
            Kit.due("head " + b, x.block(0, 0, b, 3), want[b]);
        }
    }

    private static void depths(CodeFoundry x, int... want) {
        for (int b = 0; b < want.length; b++) {
            Kit.due("depth " + b, x.block(0, 0, b, 4), want[b]);
        }
    }

    /** "A LOOP HEAD has an edge from a block that it dominates". */
    private static void heads() {
        heads(read("z: 167 @z"), 1);
        heads(read("177"), 0);
        heads(read("z: 26; 153 @z; 177"), 1, 0);
        heads(read("26; 153 @a; z: 26; 153 @z; a: 177"), 0, 1, 0);
        // an edge back to a block that does not dominate makes none
        heads(read("26; 153 @b; a: 26; 153 @c; b: 26; 153 @a; c: 177"), 0, 0, 0, 0);
        // a loop that is not reached has no head
        heads(read("177; z: 0; 167 @z"), 0, 0);
        // a reached head, to which only an unreached block goes back, is none
        heads(read("0; z: 0; 177; 167 @z"), 0, 0, 0);
        // by a catch's edge
        heads(read("0; f: 0; 177; e:", "f e f 0"), 0, 1);
        heads(read("f: 0; 0; t: 177; h: 87; 167 @f", "f t h 0"), 1, 0, 0);
    }

    /** "A block's DEPTH is the number of heads in whose loops it is". */
    private static void depths() {
        depths(read("z: 167 @z"), 1);
        // a self-edge: the head alone, not what goes to it
        depths(read("0; 167 @z; z: 26; 153 @z; 177"), 0, 1, 0);
        // the self-edge in a loop: 1 goes round by 2, and 2 has an edge to itself
        CodeFoundry x = read("0; a: 0; b: 26; 153 @b; 26; 153 @a; 177");
        depths(x, 0, 1, 2, 1, 0);
        // one head with two ways back: one loop
        depths(read("a: 26; 153 @a; 26; 153 @a; 177"), 1, 1, 0);
        // three in one another, and a way out of all from the innermost
        x = read("a: 0; b: 0; c: 26; 153 @z; 26; 153 @c; 26; 153 @b; 26; 153 @a; z: 177");
        heads(x, 1, 1, 1, 0, 0, 0, 0);
        depths(x, 1, 2, 3, 3, 2, 1, 0);
        // two loops one behind the other
        depths(read("a: 26; 153 @a; b: 26; 153 @b; 177"), 1, 1, 0);
        // a block that leaves the loop is not in it; one that is not reached is not either
        depths(read("a: 26; 153 @o; 167 @a; o: 177; x: 167 @a"), 1, 1, 0, 0);
        // within one loop, a pair of blocks with two ways in counts for that loop alone
        depths(read("a: 26; 153 @c; b: 26; 153 @c; 167 @a; c: 26; 153 @b; 167 @a"), 1, 1, 1, 1, 1);
    }

    private static void unreached() {
        CodeFoundry x = read("177; a: 0; b: 26; 153 @a; 177");
        int[][] want = {{0, 1, -1, 0, 0, 0}, {1, 0, -1, 0, 0, 2}, {4, 0, -1, 0, 0, 0}};
        for (int b = 0; b < want.length; b++) {
            for (int what = 0; what <= 5; what++) {
                Kit.due("block " + b + " " + what, x.block(0, 0, b, what), want[b][what]);
            }
        }
        edges(x, 1, 1, 2);
        Kit.due("reached by a catch alone", read("f: 0; t: 177; h: 177", "f t h 0").block(0, 0, 2, 1), 1);
        Kit.due("not by one that is not reached", read("177; f: 0; t: 177; h: 177", "f t h 0").block(0, 0, 3, 1), 0);
    }

    /** A chain of blocks: each dominated by the one before it, also across 64 and 128. */
    private static void longChains() {
        for (int n : new int[] {62, 63, 64, 65, 66, 127, 128, 129, 130, 290}) {
            StringBuilder code = new StringBuilder();
            for (int b = 0; b < n; b++) {
                code.append("L").append(b).append(": 26; 153 @Z; ");
            }
            CodeFoundry x = read(code + "Z: 177");
            Kit.due("blocks", x.blocks(0, 0), n + 1);
            for (int b = 0; b < n; b++) {
                Kit.due("dominator of " + b, x.block(0, 0, b, 2), b - 1);
                Kit.due("depth of " + b, x.block(0, 0, b, 4), 0);
            }
            Kit.due("dominator of the last", x.block(0, 0, n, 2), 0);
            // the same with a way back from the last: all are in one loop
            CodeFoundry y = read(code.toString().replace("@Z", "@X") + "167 @L0; X: 177");
            for (int b = 0; b <= n; b++) {
                Kit.due("in the loop " + b, y.block(0, 0, b, 4), 1);
                Kit.due("head " + b, y.block(0, 0, b, 3), b == 0 ? 1 : 0);
            }
            Kit.due("out of it", y.block(0, 0, n + 1, 4), 0);
        }
    }

    /** Loops in one another, as many as there are blocks. */
    private static void deepNests() {
        int n = 100;
        StringBuilder code = new StringBuilder();
        for (int b = 0; b < n; b++) {
            code.append("L").append(b).append(": 0; ");
        }
        for (int b = n - 1; b >= 0; b--) {
            code.append("26; 153 @L").append(b).append("; ");
        }
        CodeFoundry x = read(code + "177");
        // each beginning is a block, the last of them with the first way back; then a block for each way more
        Kit.due("blocks", x.blocks(0, 0), 2 * n);
        for (int b = 0; b < n; b++) {
            Kit.due("head " + b, x.block(0, 0, b, 3), 1);
            Kit.due("depth " + b, x.block(0, 0, b, 4), b + 1);
        }
        for (int b = n; b < 2 * n; b++) {
            Kit.due("depth " + b, x.block(0, 0, b, 4), 2 * n - 1 - b);
            Kit.due("dominator " + b, x.block(0, 0, b, 2), b - 1);
        }
    }

    /** 1200 blocks of one byte, and 400 that are all reached. */
    private static void manyBlocks() {
        CodeFoundry x = read("177; ".repeat(1199) + "177");
        Kit.due("1200 blocks", x.blocks(0, 0), 1200);
        Kit.due("the last begins", x.block(0, 0, 1199, 0), 1199);
        Kit.due("none behind it", x.block(0, 0, 1200, 0), -1);
        Kit.due("not reached", x.block(0, 0, 1199, 1), 0);
        StringBuilder code = new StringBuilder();
        for (int b = 1; b < 400; b++) {
            code.append("167 @L").append(b).append("; L").append(b).append(": ");
        }
        CodeFoundry y = read(code + "177");
        Kit.due("400 blocks", y.blocks(0, 0), 400);
        Kit.due("dominator", y.block(0, 0, 399, 2), 398);
        Kit.due("reached", y.block(0, 0, 399, 1), 1);
        edges(y, 398, 399);
        // a small one drawn behind a large one, and the large one again
        CodeFoundry z = new CodeFoundry();
        Kit.Klass k = new Kit.Klass().method("a", "(I)V", 1, 1, "z: 26; 153 @z; 177")
                .method("b", "()V", 1, 0, code + "177").method("c", "()V", 1, 0, "177")
                .method("d", "(I)V", 1, 1, "a: 26; 153 @e; b: 26; 153 @b; 167 @a; e: 177")
                .method("e", "(I)V", 1, 1, "0; b: 26; 153 @b; 177").method("f", "(I)V", 1, 1, "z: 26; 153 @z; 177");
        Kit.due("file()", Kit.file(z, k.bytes()), 0);
        for (int round = 0; round < 4; round++) {
            Kit.due("blocks(0, 0)", z.blocks(0, 0), 2);
            Kit.due("head", z.block(0, 0, 0, 3), 1);
            Kit.due("depth", z.block(0, 0, 0, 4), 1);
            Kit.due("blocks(0, 1)", z.blocks(0, 1), 400);
            Kit.due("head", z.block(0, 1, 0, 3), 0);
            Kit.due("dominator", z.block(0, 1, 200, 2), 199);
            Kit.due("blocks(0, 2)", z.blocks(0, 2), 1);
            Kit.due("edge(0, 2, 0, 1)", z.edge(0, 2, 0, 1), false);
            for (int b = 0; b < 5; b++) {
                Kit.due("edge(0, 2, 1, b)", z.edge(0, 2, 1, b), false);
                Kit.due("edge(0, 0, 2, b)", z.edge(0, 0, 2, b), false);
            }
            for (int f = 0; f < 3; f++) {
                // loops drawn again and again, behind others
                int m = 3 + (round + f) % 3;
                int[][] depths = {{1, 2, 1, 0}, {0, 1, 0}, {1, 0}};
                for (int b = 0; b < depths[m - 3].length; b++) {
                    Kit.due("depth", z.block(0, m, b, 4), depths[m - 3][b]);
                    Kit.due("head", z.block(0, m, b, 3), m == 3 && b < 2 || m == 4 && b == 1 || m == 5 && b == 0 ? 1 : 0);
                }
            }
            Kit.due("edge(0, 0, 0, 0)", z.edge(0, 0, 0, 0), true);
        }
    }

    /** A chain of n blocks, then one of about twice as many: rows that were made for the first are used again. */
    private static void twiceAsMany() {
        for (int n = 1; n <= 70; n++) {
            for (int more = -1; more <= 1; more++) {
                int many = 2 * n + more;
                CodeFoundry x = new CodeFoundry();
                Kit.Klass k = new Kit.Klass().method("a", "()V", 0, 0, chain(n)).method("b", "()V", 0, 0, chain(many))
                        .method("c", "()V", 0, 0, chain(many).replace("177", "167 @L0"));
                Kit.due("file()", Kit.file(x, k.bytes()), 0);
                Kit.due("blocks(0, 0)", x.blocks(0, 0), n);
                Kit.due("blocks(0, 1)", x.blocks(0, 1), many);
                Kit.due("the last begins", x.block(0, 1, many - 1, 0), many - 1);
                Kit.due("it is reached", x.block(0, 1, many - 1, 1), 1);
                Kit.due("its dominator", x.block(0, 1, many - 1, 2), many - 2);
                Kit.due("it has no edge", x.block(0, 1, many - 1, 5), 0);
                Kit.due("none behind it", x.block(0, 1, many, 0), -1);
                Kit.due("back to the first", x.edge(0, 2, many - 1, 0), true);
                Kit.due("the last is in the loop", x.block(0, 2, many - 1, 4), 1);
                Kit.due("blocks(0, 0)", x.blocks(0, 0), n);
            }
        }
    }

    /** n instructions, each a block: gotos to the next one, and a return. */
    private static String chain(int n) {
        StringBuilder code = new StringBuilder("L0: ");
        for (int b = 1; b < n; b++) {
            code.append("167 @L").append(b).append("; L").append(b).append(": ");
        }
        return code + "177";
    }

    /** Large graphs by chance, worked out from the words alone. */
    private static void largeByTheWords() {
        Random random = new Random(64);
        for (int t = 0; t < 6; t++) {
            int n = 60 + 20 * t;
            StringBuilder code = new StringBuilder();
            for (int b = 0; b < n; b++) {
                code.append("L").append(b).append(": 26; ");
                // near ones mostly, so that there are loops in loops
                int a = random.nextInt(4) == 0 ? random.nextInt(n) : near(random, b, n);
                switch (random.nextInt(6)) {
                    case 0: code.append("87; 167 @L").append(Math.min(n - 1, b + 1 + random.nextInt(3))).append("; "); break;
                    case 1: code.append("87; "); break;
                    default: code.append("153 @L").append(a).append("; "); break;
                }
            }
            compare(read(code + "177"));
        }
    }

    private static int near(Random random, int b, int n) {
        return Math.max(0, Math.min(n - 1, b - 6 + random.nextInt(12)));
    }

    private static void compare(CodeFoundry x) {
        int n = x.blocks(0, 0);
        boolean[][] edge = new boolean[n][n];
        for (int a = 0; a < n; a++) {
            for (int b = 0; b < n; b++) {
                edge[a][b] = x.edge(0, 0, a, b);
            }
        }
        boolean[] reached = from(edge, 0, -1);
        boolean[][] dominates = new boolean[n][n];
        for (int b = 0; b < n; b++) {
            boolean[] without = from(edge, 0, b);
            for (int c = 0; c < n; c++) {
                dominates[b][c] = reached[b] && reached[c] && !without[c];
            }
        }
        int[] depth = new int[n];
        for (int h = 0; h < n; h++) {
            boolean head = false;
            for (int t = 0; t < n; t++) {
                head |= edge[t][h] && dominates[h][t];
            }
            Kit.due("head " + h, x.block(0, 0, h, 3), head ? 1 : 0);
            for (int b = 0; head && b < n; b++) {
                boolean in = b == h;
                boolean[] from = from(edge, b, h);
                for (int t = 0; t < n; t++) {
                    in |= reached[b] && from[t] && edge[t][h] && dominates[h][t];
                }
                depth[b] += in ? 1 : 0;
            }
        }
        for (int c = 0; c < n; c++) {
            Kit.due("reached " + c, x.block(0, 0, c, 1), reached[c] ? 1 : 0);
            Kit.due("depth " + c, x.block(0, 0, c, 4), depth[c]);
            int dominator = -1;
            for (int d = 0; d < n; d++) {
                boolean nearest = d != c && dominates[d][c];
                for (int o = 0; o < n && nearest; o++) {
                    nearest = o == c || !dominates[o][c] || dominates[o][d];
                }
                dominator = nearest ? d : dominator;
            }
            Kit.due("dominator of " + c, x.block(0, 0, c, 2), dominator);
        }
    }

    /** What can be reached from a block without going through another one. */
    private static boolean[] from(boolean[][] edge, int start, int without) {
        boolean[] seen = new boolean[edge.length];
        int[] waiting = new int[edge.length];
        int n = 0;
        if (start != without) {
            seen[start] = true;
            waiting[n++] = start;
        }
        while (n > 0) {
            int a = waiting[--n];
            for (int b = 0; b < edge.length; b++) {
                if (edge[a][b] && !seen[b] && b != without) {
                    seen[b] = true;
                    waiting[n++] = b;
                }
            }
        }
        return seen;
    }

    /** Promises 25 to 27: numbers too small and too large, in each place. */
    private static void answers() {
        CodeFoundry x = new CodeFoundry();
        Kit.due("no file", x.blocks(0, 0), -1);
        Kit.due("no file", x.block(0, 0, 0, 0), -1);
        Kit.due("no file", x.edge(0, 0, 0, 0), false);
        // a file with a fault has graphs as well
        x = read("z: 87; 167 @z");
        Kit.due("verify(0)", x.verify(0), 1);
        Kit.due("blocks(0, 0)", x.blocks(0, 0), 1);
        Kit.due("edge(0, 0, 0, 0)", x.edge(0, 0, 0, 0), true);
        int[] wrong = {-1, 1, 2, 24, Integer.MIN_VALUE, Integer.MAX_VALUE};
        for (int v : wrong) {
            Kit.due("blocks(" + v + ", 0)", x.blocks(v, 0), -1);
            Kit.due("blocks(0, " + v + ")", x.blocks(0, v), -1);
            for (int what = -1; what <= 6; what++) {
                Kit.due("file " + v, x.block(v, 0, 0, what), -1);
                Kit.due("method " + v, x.block(0, v, 0, what), -1);
                Kit.due("block " + v, x.block(0, 0, v, what), -1);
            }
            Kit.due("file " + v, x.edge(v, 0, 0, 0), false);
            Kit.due("method " + v, x.edge(0, v, 0, 0), false);
            Kit.due("from " + v, x.edge(0, 0, v, 0), false);
            Kit.due("to " + v, x.edge(0, 0, 0, v), false);
        }
        for (int what : new int[] {-1, 6, 7, Integer.MIN_VALUE, Integer.MAX_VALUE}) {
            Kit.due("what " + what, x.block(0, 0, 0, what), -1);
        }
    }
}
