import java.util.Arrays;

/** The edges of term 6, MAKING BETTER, and of promises 28 and 29. */
public final class EdgeImproveTest {
    private static final int ALL = 2047;

    public static void main(String[] args) {
        fiftyRounds();
        theSamePlaceAgain();
        rulesByNumber();
        rowByRow();
        windows();
        theLast();
        handedOn();
        ranges();
        unreached();
        gotos();
        folds();
        unaryFolds();
        decided();
        neutral();
        pops();
        passedOn();
        deadStores();
        liveLongs();
        leastLive();
        liveWays();
        refusals();
        asWrittenAndRead();
        applied();
        Kit.finish("EdgeImproveTest");
    }

    private static int bit(int r) {
        return 1 << r - 1;
    }

    private static void better(int rules, String before, String after, int... applied) {
        ImproveTest.better(rules, before, after, applied);
    }

    private static void same(int rules, String code) {
        ImproveTest.better(rules, code, code);
    }

    private static Kit.Klass klass(String code, String... handlers) {
        return ImproveTest.klass(code, handlers);
    }

    /** "till a round changes nothing (50 at most)": of gotos to one place the last alone goes in each round. */
    private static void fiftyRounds() {
        for (int n : new int[] {1, 49, 50, 51, 52, 60}) {
            CodeFoundry x = Kit.checked(new Kit.Klass().method("m", "()V", 0, 0, "167 @e; ".repeat(n) + "e: 177")
                    .method("n", "()V", 0, 0, "167 @e; ".repeat(n + 1) + "e: 177"));
            Kit.due("improve(0, 4)", x.improve(0, bit(3)), 1);
            Kit.due(n + ": applied(3)", x.applied(3), Math.min(n, 50) + Math.min(n + 1, 50));
            Kit.due(n + ": length", x.length(1, 0), 1 + Math.max(0, n - 50));
            Kit.due(n + ": length, each row by itself", x.length(1, 1), 1 + Math.max(0, n - 49));
        }
        // other rules have no more rounds then: the nop before goes in the first one
        CodeFoundry x = Kit.checked(new Kit.Klass().method("m", "()V", 0, 0, "0; " + "167 @e; ".repeat(60) + "e: 177"));
        Kit.due("improve", x.improve(0, bit(3) | bit(4)), 1);
        Kit.due("applied(3)", x.applied(3), 50);
        Kit.due("applied(4)", x.applied(4), 1);
        // 24 pushes and pops in one another: a round for each pair
        x = Kit.checked(new Kit.Klass().method("m", "()V", 24, 0, "4; ".repeat(24) + "87; ".repeat(24) + "177"));
        Kit.due("improve", x.improve(0, bit(9)), 1);
        Kit.due("applied(9)", x.applied(9), 24);
        Kit.due("length", x.length(1, 0), 1);
    }

    /** "looking at the same place again where it did something". */
    private static void theSamePlaceAgain() {
        better(bit(5) | bit(8), "26; 4; 2; 96; 3; 96; 96; 87; 177", "26; 87; 177", 5, 2, 8, 1);
        better(bit(4), "0; 0; 0; 0; 177", "177", 4, 4);
        better(bit(3), "167 @a; a: 167 @b; b: 167 @c; c: 177", "177", 3, 3);
        better(bit(9), "4; 87; 4; 87; 4; 87; 177", "177", 9, 3);
        better(bit(6), "4; 116; 116; 116; 87; 177", "2; 87; 177", 6, 3);
        // not the place before it: that is for the next round, when another rule has been there
        better(bit(8) | bit(9), "26; 3; 3; 96; 96; 87; 177", "177", 8, 2, 9, 1);
    }

    /** "rules by number", in each round from the first that is chosen. */
    private static void rulesByNumber() {
        better(bit(5) | bit(8), "26; 3; 3; 96; 96; 87; 177", "26; 87; 177", 5, 1, 8, 1);
        better(bit(8), "26; 3; 3; 96; 96; 87; 177", "26; 87; 177", 8, 2);
        // 9 before 10 and 11
        better(bit(9) | bit(10) | bit(11), "4; 54 5; 21 5; 87; 177", "177", 9, 2, 11, 1);
        better(bit(10) | bit(11), "4; 54 5; 21 5; 87; 177", "4; 87; 177", 10, 1);
        // 2 before 3: what a goto comes to, is behind it then
        better(bit(2) | bit(3), "167 @b; a: 177; b: 167 @a", "a: 177; 167 @a", 2, 1, 3, 1);
        // 1 before 4: a nop that is not reached counts for rule 1
        better(bit(1) | bit(4), "0; 177; 0; 0; 177", "177", 1, 3, 4, 1);
        // each rule is chosen by its own bit alone
        String all = "26; 153 @x; 167 @n; n: 0; x: 4; 5; 96; 116; 87; 3; 153 @y; y: 26; 3; 96; 87; 26; 87; "
                + "4; 54 5; 21 5; 54 6; 132 0 1; 167 @z; 0; z: 177";
        for (int r = 1; r <= 11; r++) {
            CodeFoundry x = Kit.checked(klass(all));
            Kit.due("improve", x.improve(0, bit(r)), 1);
            for (int other = 1; other <= 11; other++) {
                Kit.due("rule " + r + ": applied(" + other + ")", x.applied(other) > 0, other == r
                        && r != 2 && r != 6);
            }
        }
    }

    /** Each row by itself: marks, live places, switches and catches of one method are not those of the next. */
    private static void rowByRow() {
        String[][] methods = {
            {"f: 26; 170 @c 3 @d @c; b: 0; c: 0; d: 0; t: 177; h: 87; 177", "f t h 0", "f b h 0"},
            {"4; 5; 96; 116; 87; 26; 87; 3; 153 @a; 0; a: 26; 3; 96; 87; 177"},
            {"26; 171 @x 7 @y 9 @x; x: 0; 0; y: 177"},
            {"4; 54 5; a: 21 5; 87; 21 5; 87; 167 @a"},
            {"4; 54 5; a: 0; 0; 0; 0; 167 @a"},
            {"f: 26; 87; t: 177; h: 191", "f t h 0"},
            {"26; 153 @b; 167 @a; b: 4; 5; 96; 87; a: 177"},
            {"0; 0; 0; 4; 5; 96; 87; 177"},
            {"26; 54 5; 21 5; 54 6; 132 0 1; 177; 0"},
            {"0; 26; 170 @x 1 @x; x: 177"}};
        int[] sets = {ALL, 0, 1, 2, 4, 8, 16, 32, 64, 128, 256, 512, 1024, 1 | 64, 4 | 8, 256 | 1024};
        for (int rules : sets) {
            Kit.Klass all = new Kit.Klass();
            Kit.Klass back = new Kit.Klass();
            int n = methods.length;
            for (int m = 0; m < n; m++) {
                add(all, m, methods[m]);
                add(back, m, methods[n - 1 - m]);
            }
            byte[] on = made(all, rules);
            byte[] round = made(back, rules);
            for (int m = 0; m < n; m++) {
                Kit.Klass alone = new Kit.Klass();
                add(alone, 0, methods[m]);
                byte[] want = Kit.codeOf(made(alone, rules), 0);
                Kit.due(rules + ": method " + m, Arrays.equals(Kit.codeOf(on, m), want), true);
                Kit.due(rules + ": method " + m, Arrays.equals(Kit.codeOf(round, n - 1 - m), want), true);
            }
        }
    }

    private static void add(Kit.Klass k, int m, String[] method) {
        k.method("m" + m, "(I)V", 4, 9, method[0], Arrays.copyOfRange(method, 1, method.length));
    }

    private static byte[] made(Kit.Klass k, int rules) {
        CodeFoundry x = Kit.checked(k);
        Kit.due("improve", x.improve(0, rules), 1);
        Kit.due("verify(1)", x.verify(1), 0);
        return Kit.written(x, 1);
    }

    /** Windows: the rule, then the instructions one behind the other. */
    private static final String[][] WINDOWS = {
        {"5", "4", "5", "96"}, {"5", "10", "10", "97"}, {"6", "4", "116"}, {"6", "4", "133"}, {"7", "3", "153 @a"},
        {"7", "4", "153 @a"}, {"7", "3", "3", "159 @a"}, {"7", "3", "3", "160 @a"}, {"8", "3", "96"},
        {"8", "20 long:-1", "127"}, {"9", "1", "87"}, {"9", "26", "87"}, {"9", "9", "88"}, {"10", "54 5", "21 5"},
        {"10", "55 5", "22 5"}, {"10", "58 5", "25 5"}};

    /** "A WINDOW is two or three instructions .., no jump, catch's AT, FROM or TO going to any but the first". */
    private static void windows() {
        for (String[] w : WINDOWS) {
            int n = w.length - 1;
            int rule = Integer.parseInt(w[0]);
            StringBuilder code = new StringBuilder("a: 177; u: 0; ");
            for (int k = 0; k < n; k++) {
                code.append("w").append(k).append(": ").append(w[k + 1]).append("; ");
            }
            code.append("w").append(n).append(": 0; ");
            // what is not reached is not checked: any stack will do
            for (int k = 0; k <= n; k++) {
                boolean good = k == 0 || k == n;
                String at = "@w" + k;
                window(rule, good, code + "167 " + at);
                window(rule, good, code + "153 " + at + "; 177");
                window(rule, good, code + "198 " + at + "; 177");
                window(rule, good, code + "170 " + at + " 0 @a");
                window(rule, good, code + "170 @a 0 @a " + at);
                window(rule, good, code + "171 @a 1 " + at);
                window(rule, good, code + "171 " + at);
                window(rule, good, code + "177", "u w0 w" + k + " 0");
                window(rule, good, code + "z: 177", "w" + k + " z a 0");
                window(rule, good, code + "177; e:", "w" + k + " e a SizeError");
                window(rule, good, code + "177", "u w" + k + " a 0");
            }
            window(rule, true, code + "177");
            // with something between there is no window
            for (int k = 1; k < n; k++) {
                window(rule, false, code.toString().replace("w" + k + ":", "0; w" + k + ":") + "177");
            }
        }
    }

    private static void window(int rule, boolean good, String code, String... handlers) {
        CodeFoundry x = Kit.checked(new Kit.Klass().method("m", "()V", 4, 8, code, handlers));
        Kit.due(code + ": improve", x.improve(0, bit(rule)), 1);
        Kit.due(code + ": applied(" + rule + ")", x.applied(rule), good ? 1 : 0);
    }

    /** "The last of the row is in no window; rules 3 to 11 leave it as it is". */
    private static void theLast() {
        for (String[] w : WINDOWS) {
            int rule = Integer.parseInt(w[0]);
            StringBuilder code = new StringBuilder("a: 177");
            for (int k = 1; k < w.length; k++) {
                code.append("; ").append(w[k]);
            }
            window(rule, false, code.toString());
            window(rule, true, code + "; 0");
        }
        same(bit(4), "177; 0");
        better(bit(4), "177; 0; 0", "177; 0", 4, 1);
        same(bit(11), "177; 54 5");
        same(bit(11), "177; 132 5 1");
        better(bit(11), "177; 54 5; 0", "177; 87; 0", 11, 1);
        better(bit(11), "177; 132 5 1; 0", "177; 0", 11, 1);
        // rules 1 and 2 do not leave it
        better(bit(1), "177; 0", "177", 1, 1);
        better(bit(2), "167 @c; a: 177; b: 167 @a; c: 167 @b", "167 @a; a: 177; b: 167 @a; c: 167 @a", 2, 2);
        better(bit(2), "a: 177; b: 167 @a; 26; 171 @b", "a: 177; b: 167 @a; 26; 171 @a", 2, 1);
        // a jump of the first of the row marks as well
        same(bit(10), "167 @b; 54 0; b: 21 0; 87; 177");
        // a row of one
        same(ALL, "177");
        better(ALL, "a: 167 @a", "a: 167 @a");
    }

    /** "What is taken away hands the jumps to it, and ends of ranges, on to what stands behind". */
    private static void handedOn() {
        String[][] rows = {{"3", "167 @z; z: ", ""}, {"4", "0; ", ""}, {"5", "4; 5; 96; 87; ", "6; 87; "}, {"6", "4; 116; 87; ", "2; 87; "},
            {"7", "4; 153 @e; ", ""}, {"7", "3; 153 @e; ", "167 @e; "}, {"7", "4; 5; 159 @e; ", ""},
            {"7", "4; 4; 159 @e; ", "167 @e; "}, {"9", "26; 87; ", ""}, {"11", "132 0 1; ", ""}};
        for (String[] r : rows) {
            int rule = Integer.parseInt(r[0]);
            String[] frames = {"26; 153 @t; 0; t: X y: 0; e: 177", "26; 170 @e 0 @t; 0; t: X y: 0; e: 177",
                "26; 171 @t 1 @e; 0; t: X y: 0; e: 177", "167 @t; e: 177; t: X y: 167 @e"};
            for (String frame : frames) {
                String before = frame.replace("X ", r[1]);
                String after = frame.replace("X ", r[2]);
                if (rule == 4) {
                    // the frame's own nops are not meant
                    before = before.replace("0; t:", "26; 87; t:").replace("y: 0", "y: 26; 87");
                    after = after.replace("0; t:", "26; 87; t:").replace("y: 0", "y: 26; 87");
                } else if (rule == 9 || rule == 11) {
                    before = before.replace("y: 0", "y: 178 field:i:I; 87");
                    after = after.replace("y: 0", "y: 178 field:i:I; 87");
                }
                better(bit(rule), before, after, rule, 1);
            }
            // FROM, TO and AT at what goes
            String rest = "1; 191; h: 87; 177";
            if (rule != 5 && rule != 6 && rule != 7) {
                ImproveTest.better(bit(rule), klass("f: " + r[1] + "g: " + rest, "f h h 0"), klass("f: " + rest,
                        "f h h 0"), rule, 1);
            }
        }
        // to the last of the row
        better(bit(4), "26; 153 @t; 26; 87; t: 0; 177", "26; 153 @t; 26; 87; t: 177", 4, 1);
        better(bit(9), "26; 153 @t; 0; t: 4; 87; 177", "26; 153 @t; 0; t: 177", 9, 1);
        // over several that go one behind the other
        better(bit(4), "26; 153 @t; 26; 87; t: 0; 0; 0; 177", "26; 153 @t; 26; 87; t: 177", 4, 3);
    }

    /** "and ends of ranges, on to what stands behind; a catch whose range gets empty goes". */
    private static void ranges() {
        String rest = "178 field:i:I; 87; 177; h: 87; 177; e:";
        Kit.Klass none = klass("178 field:i:I; 87; 177; h: 87; 177");
        ImproveTest.better(bit(4), klass("f: 0; t: " + rest, "f t h 0"), none, 4, 1);
        ImproveTest.better(bit(4), klass("f: 0; 0; 0; t: " + rest, "f t h 0"), none, 4, 3);
        // one that stays keeps it; its ends move together
        ImproveTest.better(bit(4), klass("0; f: 0; 178 field:i:I; 87; 0; t: 0; 177; h: 87; 177", "f t h 0"),
                klass("f: 178 field:i:I; 87; t: 177; h: 87; 177", "f t h 0"), 4, 4);
        // of three the middle one goes, with its name; the order of the others stays
        ImproveTest.better(bit(4), klass("f: 26; 87; g: 0; i: 26; 87; t: 177; h: 87; 177", "f g h NullError", "g i h 0",
                "i t h SizeError"), klass("f: 26; 87; i: 26; 87; t: 177; h: 87; 177", "f i h NullError",
                "i t h SizeError"), 4, 1);
        // a range to the end
        ImproveTest.better(bit(4), klass("167 @f; h: 87; 177; f: 0; 0; 177; e:", "f e h 0"),
                klass("167 @f; h: 87; 177; f: 177; e:", "f e h 0"), 4, 2);
        // AT at what goes
        ImproveTest.better(bit(4), klass("f: 26; 87; t: 177; h: 0; 0; 87; 177", "f t h 0"),
                klass("f: 26; 87; t: 177; h: 87; 177", "f t h 0"), 4, 2);
        // a range inside of what a window takes away stops it, a range around it does not
        ImproveTest.better(bit(9), klass("f: 26; 87; t: 177; h: 87; 177", "f t h 0"), klass("177; h: 87; 177"), 9, 1);
        ImproveTest.better(bit(9), klass("f: 26; t: 87; 177; h: 87; 177", "f t h 0"),
                klass("f: 26; t: 87; 177; h: 87; 177", "f t h 0"));
    }

    /** Rule 1: "(from the beginning, over jumps, next ones, and AT of catches that have one reached) .. each counts". */
    private static void unreached() {
        for (int n : new int[] {0, 1, 2, 100}) {
            better(bit(1), "177; " + "0; ".repeat(n) + "177", "177", 1, n + 1);
        }
        for (String end : new String[] {"167 @e", "1; 191", "26; 170 @e 0 @e", "26; 171 @e 5 @e", "200 @e"}) {
            String after = end.equals("1; 191") ? end : end.replace("200", "167") + "; e: 177";
            better(bit(1), end + "; 0; 4; 87; e: 177", after, 1, end.equals("1; 191") ? 4 : 3);
        }
        // back and on again, as often as it takes
        same(bit(1), "167 @b; a: 0; 167 @c; b: 167 @a; d: 177; c: 167 @d");
        better(bit(1), "167 @b; a: 0; 167 @c; 0; b: 167 @a; d: 177; 0; c: 167 @d",
                "167 @b; a: 0; 167 @c; b: 167 @a; d: 177; c: 167 @d", 1, 2);
        // a loop that is not reached goes as a whole, jumps out of it too
        better(bit(1), "177; a: 26; 153 @a; 167 @b; b: 177", "177", 1, 4);
        // AT by the last of a range, not by what stands behind it
        ImproveTest.better(bit(1), klass("167 @z; f: 0; z: 0; t: 177; h: 87; 177", "f t h 0"),
                klass("167 @z; f: z: 0; t: 177; h: 87; 177", "f t h 0"), 1, 1);
        ImproveTest.better(bit(1), klass("167 @t; f: 0; t: 177; h: 87; 177", "f t h 0"), klass("167 @t; t: 177"), 1, 3);
        // AT that only another AT's code reaches
        ImproveTest.better(bit(1), klass("f: 0; t: 177; h: 87; u: 177; i: 87; 177", "f t h 0", "h u i 0"),
                klass("f: 0; t: 177; h: 87; u: 177; i: 87; 177", "f t h 0", "h u i 0"));
        ImproveTest.better(bit(1), klass("177; f: 0; t: 177; h: 87; u: 177; i: 87; 177", "f t h 0", "h u i 0"),
                klass("177"), 1, 6);
        // targets of every sort reach
        same(bit(1), "26; 170 @a 0 @b @c; a: 177; b: 177; c: 177");
        same(bit(1), "26; 171 @a 1 @b 2 @c; a: 177; b: 177; c: 177");
        same(bit(1), "26; 153 @a; 177; a: 177");
    }

    /** Rule 2: "over as many as there are (not if that comes to one twice)"; rule 3: "a goto to the next one". */
    private static void gotos() {
        StringBuilder chain = new StringBuilder("26; 153 @L0; 177; ");
        StringBuilder after = new StringBuilder("26; 153 @E; 177; ");
        for (int i = 0; i < 100; i++) {
            chain.append("L").append(i).append(": 167 @").append(i < 99 ? "L" + (i + 1) : "E").append("; ");
            after.append("167 @E; ");
        }
        better(bit(2), chain + "E: 177", after + "E: 177", 2, 100);
        // as many gotos as a row can have, the last of them to a return
        CodeFoundry x = Kit.checked(new Kit.Klass().method("m", "()V", 0, 0,
                longest(398) + "L398: 177"));
        Kit.due("improve", x.improve(0, bit(2)), 1);
        Kit.due("applied(2)", x.applied(2), 397);
        // a chain that comes to one twice: none of it moves, nor what goes into it
        same(bit(2), "26; 153 @a; 167 @b; a: 167 @b; b: 167 @c; c: 167 @a");
        same(bit(2), "26; 171 @a 1 @b; a: 167 @a; b: 167 @a");
        same(bit(2), "a: 167 @a");
        same(bit(2), "26; 153 @a; 177; a: 167 @a");
        // not to itself: a goto to a goto that is behind
        better(bit(2), "167 @b; a: 177; b: 167 @a; 0", "167 @a; a: 177; b: 167 @a; 0", 2, 1);
        // each sort of jump
        for (String jump : new String[] {"26; 153", "26; 158", "26; 26; 159", "26; 26; 164", "1; 1; 165", "1; 1; 166",
            "1; 198", "1; 199"}) {
            better(bit(2), jump + " @a; 177; b: 177; a: 167 @b", jump + " @b; 177; b: 177; a: 167 @b", 2, 1);
        }
        better(bit(2), "26; 170 @a 5 @b @a @c; b: 177; a: 167 @b; c: 167 @a",
                "26; 170 @b 5 @b @b @b; b: 177; a: 167 @b; c: 167 @b", 2, 4);
        // rule 3: not to itself, not to the one before, not a jump of another sort
        same(bit(3), "a: 167 @a; 177");
        same(bit(3), "26; a: 153 @b; b: 177");
        same(bit(3), "167 @b; a: 0; b: 26; 153 @a; 177");
        better(bit(3), "200 @b; b: 177", "177", 3, 1);
        better(bit(3), "26; 153 @g; 0; g: 167 @b; b: 177", "26; 153 @b; 0; b: 177", 3, 1);
    }

    private static String longest(int n) {
        StringBuilder code = new StringBuilder();
        for (int i = 0; i < n; i++) {
            code.append("L").append(i).append(": 167 @L").append(i + 1).append("; ");
        }
        return code.toString();
    }

    private static void fold(String window, String push) {
        boolean wide = push.startsWith("20") || push.equals("9") || push.equals("10");
        String end = wide ? "; 179 field:l:J; 177" : "; 179 field:i:I; 177";
        better(bit(5), window + end, push + end, 5, 1);
    }

    private static String pushInt(int v) {
        return "19 int:" + v;
    }

    private static String pushLong(long v) {
        return "20 long:" + v;
    }

    /** Rule 5: every operator at the ends of its numbers; "div rem with y not 0". */
    private static void folds() {
        int[] ints = {0, 1, -1, 2, -7, 31, 32, 33, Integer.MIN_VALUE, Integer.MAX_VALUE};
        for (int x : ints) {
            for (int y : ints) {
                String two = pushInt(x) + "; " + pushInt(y) + "; ";
                fold(two + 96, pushInt(x + y));
                fold(two + 100, pushInt(x - y));
                fold(two + 104, pushInt(x * y));
                fold(two + 120, pushInt(x << y));
                fold(two + 122, pushInt(x >> y));
                fold(two + 124, pushInt(x >>> y));
                fold(two + 126, pushInt(x & y));
                fold(two + 128, pushInt(x | y));
                fold(two + 130, pushInt(x ^ y));
                if (y != 0) {
                    fold(two + 108, pushInt(x / y));
                    fold(two + 112, pushInt(x % y));
                } else {
                    same(bit(5), two + "108; 87; 177");
                    same(bit(5), two + "112; 87; 177");
                }
            }
        }
        long[] longs = {0, 1, -1, 63, 64, 1L << 32, Long.MIN_VALUE, Long.MAX_VALUE};
        for (long x : longs) {
            for (long y : longs) {
                String two = pushLong(x) + "; " + pushLong(y) + "; ";
                fold(two + 97, pushLong(x + y));
                fold(two + 101, pushLong(x - y));
                fold(two + 105, pushLong(x * y));
                fold(two + 127, pushLong(x & y));
                fold(two + 129, pushLong(x | y));
                fold(two + 131, pushLong(x ^ y));
                fold(two + 148, pushInt(Long.compare(x, y)));
                if (y != 0) {
                    fold(two + 109, pushLong(x / y));
                    fold(two + 113, pushLong(x % y));
                } else {
                    same(bit(5), two + "109; 88; 177");
                    same(bit(5), two + "113; 88; 177");
                }
            }
            for (int y : new int[] {0, 1, 63, 64, 65, -1, Integer.MIN_VALUE}) {
                String two = pushLong(x) + "; " + pushInt(y) + "; ";
                fold(two + 121, pushLong(x << y));
                fold(two + 123, pushLong(x >> y));
                fold(two + 125, pushLong(x >>> y));
            }
        }
        // what is no push of a number, no operator on both, or of another kind
        for (String code : new String[] {"26; 4; 96; 87; 177", "4; 26; 96; 87; 177", "1; 1; 166 @z; z: 177",
            "4; 4; 88; 177", "4; 4; 159 @z; z: 177", "177; 1; 4; 96; 177", "177; 4; 1; 96; 177", "177; 4; 10; 96; 177",
            "177; 10; 4; 96; 177", "177; 10; 4; 97; 177", "177; 4; 4; 97; 177", "177; 10; 10; 121; 177",
            "177; 4; 10; 121; 177", "177; 4; 4; 148; 177", "177; 4; 4; 46; 177", "177; 4; 4; 116; 177",
            "177; 10; 10; 96; 177", "4; 5; 0; 96; 87; 177"}) {
            same(bit(5), code);
        }
    }

    /** Rule 6: "push x and neg, 133, 136, 145 .. 147". */
    private static void unaryFolds() {
        String toInt = "; 179 field:i:I; 177";
        String toLong = "; 179 field:l:J; 177";
        for (int x : new int[] {0, 1, -1, 127, 128, 255, 256, 32767, 32768, 65535, 65536, Integer.MIN_VALUE,
            Integer.MAX_VALUE}) {
            better(bit(6), pushInt(x) + "; 116" + toInt, pushInt(-x) + toInt, 6, 1);
            better(bit(6), pushInt(x) + "; 133" + toLong, pushLong(x) + toLong, 6, 1);
            better(bit(6), pushInt(x) + "; 145" + toInt, pushInt((byte) x) + toInt, 6, 1);
            better(bit(6), pushInt(x) + "; 146" + toInt, pushInt((char) x) + toInt, 6, 1);
            better(bit(6), pushInt(x) + "; 147" + toInt, pushInt((short) x) + toInt, 6, 1);
        }
        for (long x : new long[] {0, 1, -1, 1L << 31, 1L << 32, 0xffffffffL, Long.MIN_VALUE, Long.MAX_VALUE}) {
            better(bit(6), pushLong(x) + "; 117" + toLong, pushLong(-x) + toLong, 6, 1);
            better(bit(6), pushLong(x) + "; 136" + toInt, pushInt((int) x) + toInt, 6, 1);
        }
        for (String code : new String[] {"26; 116; 87; 177", "31; 136; 87; 177", "177; 10; 116; 177",
            "177; 4; 117; 177", "177; 10; 133; 177", "177; 4; 136; 177", "177; 10; 145; 177", "177; 1; 116; 177",
            "177; 4; 190; 177", "177; 4; 188 10; 177"}) {
            same(bit(6), code);
        }
    }

    private static boolean taken(int op, int x, int y) {
        switch (op) {
            case 0: return x == y;
            case 1: return x != y;
            case 2: return x < y;
            case 3: return x >= y;
            case 4: return x > y;
            default: return x <= y;
        }
    }

    /** Rule 7: "goto or nothing". */
    private static void decided() {
        int[] ints = {0, 1, -1, 5, Integer.MIN_VALUE, Integer.MAX_VALUE};
        String rest = "0; 177; a: 4; 87; 177";
        for (int op = 0; op < 6; op++) {
            for (int x : ints) {
                better(bit(7), pushInt(x) + "; " + (153 + op) + " @a; " + rest,
                        (taken(op, x, 0) ? "167 @a; " : "") + rest, 7, 1);
                for (int y : ints) {
                    better(bit(7), pushInt(x) + "; " + pushInt(y) + "; " + (159 + op) + " @a; " + rest,
                            (taken(op, x, y) ? "167 @a; " : "") + rest, 7, 1);
                }
            }
        }
        // of two pushes the upper one alone where one is looked at
        better(bit(7), "4; 3; 153 @a; a: 87; 177", "4; 167 @a; a: 87; 177", 7, 1);
        // and a push further down is none for two
        for (String code : new String[] {"26; 153 @a; a: 177", "26; 4; 159 @a; a: 177", "4; 26; 159 @a; a: 177",
            "1; 198 @a; a: 177", "1; 1; 165 @a; a: 177", "177; 10; 153 @a; a: 177", "177; 10; 4; 159 @a; a: 177",
            "177; 4; 10; 159 @a; a: 177", "177; 10; 10; 159 @a; a: 177", "4; 171 @a 1 @a; a: 177",
            "4; 170 @a 1 @a; a: 177"}) {
            same(bit(7), code);
        }
        // back as well as on
        better(bit(7), "a: 26; 87; 3; 153 @a; 0; 177", "a: 26; 87; 167 @a; 0; 177", 7, 1);
    }

    /** Rule 8: "0, 1, -1 of the operator's kind, of a shift an int", and no other number. */
    private static void neutral() {
        int[][] ops = {{96, 0}, {100, 0}, {104, 1}, {108, 1}, {112, 99}, {120, 0}, {122, 0}, {124, 0}, {126, -1}, {128, 0},
            {130, 0}};
        for (int[] o : ops) {
            for (int v : new int[] {-2, -1, 0, 1, 2, 32, Integer.MIN_VALUE, Integer.MAX_VALUE}) {
                String code = "26; " + pushInt(v) + "; " + o[0] + "; 87; 177";
                if (v == o[1]) {
                    better(bit(8), code, "26; 87; 177", 8, 1);
                } else {
                    same(bit(8), code);
                }
            }
        }
        int[][] longOps = {{97, 0}, {101, 0}, {105, 1}, {109, 1}, {113, 99}, {127, -1}, {129, 0}, {131, 0}};
        for (int[] o : longOps) {
            for (long v : new long[] {-2, -1, 0, 1, 2, 1L << 32, (1L << 32) + 1, 0xffffffffL, Long.MIN_VALUE}) {
                String code = "31; " + pushLong(v) + "; " + o[0] + "; 88; 177";
                if (v == o[1]) {
                    better(bit(8), code, "31; 88; 177", 8, 1);
                } else {
                    same(bit(8), code);
                }
            }
        }
        for (int op : new int[] {121, 123, 125}) {
            for (int v : new int[] {-1, 0, 1, 64}) {
                String code = "31; " + pushInt(v) + "; " + op + "; 88; 177";
                if (v == 0) {
                    better(bit(8), code, "31; 88; 177", 8, 1);
                } else {
                    same(bit(8), code);
                }
            }
        }
        // a number of the other kind, and the number below instead of on top
        for (String code : new String[] {"177; 9; 96; 177", "177; 3; 97; 177", "177; 10; 104; 177", "177; 4; 105; 177",
            "177; 20 long:-1; 126; 177", "177; 2; 127; 177", "177; 9; 121; 177", "177; 9; 120; 177", "3; 26; 96; 87; 177",
            "177; 3; 116; 177", "177; 9; 148; 177", "177; 3; 87; 177", "177; 1; 96; 177"}) {
            same(bit(8), code);
        }
    }

    /** Rule 9: "a push (1 too) or load and a pop (two for a long)". */
    private static void pops() {
        for (String push : new String[] {"1", "2", "3", "8", "16 77", "17 7777", "18 int:77777", "21 0", "26"}) {
            better(bit(9), push + "; 87; 177", "177", 9, 1);
            same(bit(9), "177; " + push + "; 88; 177");
        }
        for (String push : new String[] {"9", "10", "20 long:5", "22 1", "31"}) {
            better(bit(9), push + "; 88; 177", "177", 9, 1);
            same(bit(9), "177; " + push + "; 87; 177");
        }
        better(bit(9), "1; 75; 42; 87; 177", "1; 75; 177", 9, 1);
        same(bit(9), "177; 42; 88; 177");
        for (String other : new String[] {"178 field:i:I; 87", "4; 188 10; 87", "26; 89; 87; 87", "26; 116; 87",
            "26; 26; 95; 88", "4; 5; 88", "178 field:l:J; 88", "31; 117; 88"}) {
            same(bit(9), other + "; 177");
        }
    }

    /** Rule 10: "store k, load k of one kind with k not LIVE behind". */
    private static void passedOn() {
        for (int k = 0; k < 12; k++) {
            better(bit(10), "4; 54 " + k + "; 21 " + k + "; 87; 177", "4; 87; 177", 10, 1);
            better(bit(10), "1; 58 " + k + "; 25 " + k + "; 87; 177", "1; 87; 177", 10, 1);
            if (k < 11) {
                better(bit(10), "9; 55 " + k + "; 22 " + k + "; 88; 177", "9; 88; 177", 10, 1);
            }
        }
        // of another kind, of another local, the other way round
        for (String code : new String[] {"177; 54 5; 25 5; 0; 177", "177; 54 5; 22 5; 0; 177", "177; 55 5; 21 5; 0; 177",
            "177; 58 5; 21 5; 0; 177", "177; 55 5; 25 5; 0; 177", "177; 58 5; 22 5; 0; 177", "177; 54 5; 21 6; 0; 177",
            "177; 54 6; 21 5; 0; 177", "177; 55 5; 22 6; 0; 177", "177; 58 5; 25 6; 0; 177", "177; 21 5; 54 5; 0; 177",
            "177; 132 5 1; 21 5; 0; 177", "177; 54 5; 132 5 1; 0; 177", "177; 54 5; 54 5; 0; 177"}) {
            same(bit(10), code);
        }
        // live behind the load: by a load, an inc, a way back, a catch
        for (String code : new String[] {"4; 54 5; 21 5; 87; 21 5; 87; 177", "4; 54 5; 21 5; 87; 132 5 1; 177",
            "4; 54 5; a: 21 5; 54 5; 21 5; 153 @a; 177",
            "4; 54 5; 21 5; 153 @a; 177; a: 21 5; 87; 177", "4; 54 5; 21 5; 171 @a 1 @b; a: 177; b: 21 5; 87; 177"}) {
            same(bit(10), code);
        }
        // stored anew behind: not live
        better(bit(10), "4; 54 5; 21 5; 54 5; 21 5; 87; 177", "4; 87; 177", 10, 2);
        better(bit(10), "4; 54 5; 21 5; 87; 5; 54 5; 132 5 1; 177", "4; 87; 5; 54 5; 132 5 1; 177", 10, 1);
        // anew behind each thing: what kept the first one alive is gone then, in the next round
        better(bit(10), "4; 54 5; 21 5; 54 6; 21 6; 54 7; 21 7; 87; 177", "4; 87; 177", 10, 3);
    }

    /** Rule 11: "a store to a local that is not live behind it: pop, or pop two; an inc of one: nothing". */
    private static void deadStores() {
        for (int k = 0; k < 12; k++) {
            better(bit(11), "4; 54 " + k + "; 177", "4; 87; 177", 11, 1);
            better(bit(11), "1; 58 " + k + "; 177", "1; 87; 177", 11, 1);
            if (k < 11) {
                better(bit(11), "9; 55 " + k + "; 177", "9; 88; 177", 11, 1);
            }
        }
        better(bit(11), "132 0 1; 177", "177", 11, 1);
        better(bit(11), "132 0 1; 132 0 1; 132 0 1; 177", "177", 11, 3);
        // what is done behind makes what stands before dead in the same going through, or in the next round
        better(bit(11), "4; 54 5; 21 5; 54 6; 177", "4; 54 5; 21 5; 87; 177", 11, 1);
        better(bit(11) | bit(9), "4; 54 5; 21 5; 54 6; 177", "177", 11, 2, 9, 2);
        // the least: what nothing loads is not live, though it goes round
        better(bit(11), "a: 4; 54 5; 167 @a", "a: 4; 87; 167 @a", 11, 1);
        same(bit(11), "4; 54 5; a: 132 5 1; 167 @a");
        same(bit(11), "4; 54 5; a: 21 5; 87; 167 @a");
        same(bit(11), "4; 54 5; 21 5; 87; 177");
        same(bit(11), "132 0 1; 26; 87; 177");
        better(bit(11), "26; 87; 132 0 1; 177", "26; 87; 177", 11, 1);
    }

    /** "Of a long both places count": told in code that is not reached, which may do what it likes. */
    private static void liveLongs() {
        String[] dead = {"55 5; 21 4; 0; 177", "55 5; 21 7; 0; 177", "54 5; 22 6; 0; 177", "54 5; 22 3; 0; 177",
            "55 5; 22 3; 0; 177", "55 5; 22 7; 0; 177", "54 5; 55 4; 21 5; 0; 177", "54 5; 55 5; 21 5; 0; 177",
            "58 5; 25 4; 0; 177", "58 5; 55 4; 25 5; 0; 177", "55 5; 132 4 1; 0; 177", "55 5; 132 7 1; 0; 177"};
        for (String code : dead) {
            String after = code.replaceFirst("^55 5", "88").replaceFirst("^5[48] 5", "87");
            // the other stores of the row are live or dead by themselves: one thing is done at the least
            CodeFoundry x = Kit.checked(klass("177; " + code));
            Kit.due("improve", x.improve(0, bit(11)), 1);
            Kit.due("dead: " + code, x.applied(11) >= 1, true);
            if (!after.contains("; 55") && !after.contains("132")) {
                better(bit(11), "177; " + code, "177; " + after, 11, 1);
            }
        }
        String[] alive = {"55 5; 21 5; 0; 177", "55 5; 21 6; 0; 177", "55 5; 22 4; 0; 177", "55 5; 22 5; 0; 177",
            "55 5; 22 6; 0; 177", "54 5; 22 4; 0; 177", "54 5; 22 5; 0; 177", "55 5; 25 6; 0; 177", "58 5; 22 4; 0; 177",
            "55 5; 132 6 1; 21 6; 0; 177", "132 5 1; 22 4; 0; 177"};
        for (String code : alive) {
            same(bit(11), "177; " + code);
        }
        // a store of one half leaves the other live
        same(bit(11), "177; 55 5; 54 5; 22 5; 0; 177");
        same(bit(11), "177; 55 5; 54 6; 22 5; 0; 177");
        better(bit(11), "177; 54 5; 54 6; 55 5; 22 5; 0; 177", "177; 87; 87; 55 5; 22 5; 0; 177", 11, 2);
        better(bit(11), "177; 54 4; 54 7; 55 5; 22 4; 22 6; 0; 177", "177; 54 4; 54 7; 55 5; 22 4; 22 6; 0; 177");
        // rule 10 likewise
        same(bit(10), "177; 55 5; 22 5; 21 5; 0; 177");
        same(bit(10), "177; 55 5; 22 5; 21 6; 0; 177");
        same(bit(10), "177; 55 5; 22 5; 22 4; 0; 177");
        same(bit(10), "177; 55 5; 22 5; 22 6; 0; 177");
        same(bit(10), "177; 54 5; 21 5; 22 4; 0; 177");
        better(bit(10), "177; 55 5; 22 5; 21 4; 0; 177", "177; 21 4; 0; 177", 10, 1);
        better(bit(10), "177; 55 5; 22 5; 21 7; 0; 177", "177; 21 7; 0; 177", 10, 1);
        better(bit(10), "177; 54 5; 21 5; 22 6; 0; 177", "177; 22 6; 0; 177", 10, 1);
        better(bit(10), "177; 54 5; 21 5; 55 4; 22 4; 0; 177", "177; 0; 177", 10, 2);
    }

    /** "LIVE, the least such": what goes round and round without a load makes no place live. */
    private static void leastLive() {
        for (int k = 0; k < 8; k++) {
            String[] loops = {"l: 167 @l", "l: 0; 167 @l", "l: 26; 153 @l; 167 @l"};
            for (String loop : k == 0 ? Arrays.copyOf(loops, 2) : loops) {
                better(bit(11), "4; 54 " + k + "; " + loop, "4; 87; " + loop, 11, 1);
                better(bit(10), "4; 54 " + k + "; 21 " + k + "; 87; " + loop, "4; 87; " + loop, 10, 1);
            }
            if (k < 7) {
                better(bit(11), "10; 55 " + k + "; l: 0; 167 @l", "10; 88; l: 0; 167 @l", 11, 1);
            }
        }
        ImproveTest.better(bit(11), klass("4; 54 5; f: l: 0; 167 @l; t: h: 87; 167 @l", "f t h 0"),
                klass("4; 87; f: l: 0; 167 @l; t: h: 87; 167 @l", "f t h 0"), 11, 1);
        same(bit(11), "4; 54 5; l: 0; 21 5; 87; 167 @l");
        // a last one that goes on, to nothing
        for (int k = 0; k < 8; k++) {
            better(bit(11), "177; 4; 54 " + k + "; 0", "177; 4; 87; 0", 11, 1);
        }
    }

    /** "live before one to which that goes on or jumps .. or that a catch has before whose AT it is live". */
    private static void liveWays() {
        for (String jump : new String[] {"26; 153 @a; 177", "26; 26; 159 @a; 177", "1; 198 @a; 177", "167 @a",
            "26; 170 @b 0 @a", "26; 170 @a 0 @b", "26; 171 @b 3 @a", "26; 171 @a 3 @b"}) {
            same(bit(11), "4; 54 5; " + jump + "; a: 21 5; 87; b: 177");
            better(bit(11), "4; 54 5; " + jump + "; a: 5; 54 5; 21 5; 87; b: 177",
                    "4; 87; " + jump + "; a: 5; 54 5; 21 5; 87; b: 177", 11, 1);
        }
        // what stands behind a goto, a return, a throw or a switch is not gone on to
        for (String end : new String[] {"167 @z", "177", "1; 191", "26; 170 @z 0 @z", "26; 171 @z"}) {
            better(bit(11), "4; 54 5; " + end + "; 21 5; 0; z: 177", "4; 87; " + end + "; 21 5; 0; z: 177", 11, 1);
        }
        // catches: each instruction of the range, its first and its last
        String[][] rows = {
            {"4; 54 5; f: 0; t: 177; h: 87; 21 5; 87; 177", "live"},
            {"4; f: 54 5; t: 177; h: 87; 21 5; 87; 177", "none"},
            {"4; 54 5; 5; f: 54 5; t: 177; h: 87; 21 5; 87; 177", "first"},
            {"4; 54 5; 5; 54 5; f: 177; t: h: 87; 21 5; 87; 177", "second"}};
        for (String[] r : rows) {
            if (r[1].equals("none")) {
                // AT loads what is not there: not checked without a fault, so it can't be made better
                CodeFoundry x = new CodeFoundry();
                Kit.due("file()", Kit.file(x, klass(r[0], "f t h 0").bytes()), 0);
                Kit.due("verify(0)", x.verify(0), 1);
                Kit.due("improve", x.improve(0, ALL), -1);
                continue;
            }
            CodeFoundry x = Kit.checked(klass(r[0], "f t h 0"));
            Kit.due("improve", x.improve(0, bit(11)), 1);
            Kit.due(r[0], x.applied(11), r[1].equals("live") ? 0 : 1);
        }
        // the store itself is in the range: live before it by AT, but what counts is behind it
        ImproveTest.better(bit(11), klass("4; 54 5; 5; f: 54 5; t: 177; h: 87; 21 5; 87; 177", "f t h 0"),
                klass("4; 54 5; 5; f: 87; t: 177; h: 87; 21 5; 87; 177", "f t h 0"), 11, 1);
        ImproveTest.better(bit(11), klass("4; 54 5; 5; f: 54 5; 0; t: 177; h: 87; 21 5; 87; 177", "f t h 0"),
                klass("4; 54 5; 5; f: 54 5; 0; t: 177; h: 87; 21 5; 87; 177", "f t h 0"));
    }

    /** Promise 28: "-1 .. rules is not 0 .. 2047; -2 there are 12 files; -3 the new one would break a rule". */
    private static void refusals() {
        CodeFoundry x = new CodeFoundry();
        Kit.due("no file", x.improve(0, 0), -1);
        Kit.due("file()", Kit.file(x, klass("0; 177").bytes()), 0);
        Kit.due("file()", Kit.file(x, klass("87; 177").bytes()), 1);
        Kit.due("not checked", x.improve(0, 0), -1);
        Kit.due("verify(0)", x.verify(0), 0);
        Kit.due("verify(1)", x.verify(1), 1);
        Kit.due("with a fault", x.improve(1, 0), -1);
        for (int f : new int[] {-1, 2, 12, Integer.MIN_VALUE, Integer.MAX_VALUE}) {
            Kit.due("no file " + f, x.improve(f, 0), -1);
        }
        for (int rules : new int[] {-1, 2048, 4095, Integer.MIN_VALUE, Integer.MAX_VALUE}) {
            Kit.due("rules " + rules, x.improve(0, rules), -1);
        }
        Kit.due("nothing was made", x.size(2, 0), -1);
        Kit.due("rules 0", x.improve(0, 0), 2);
        Kit.due("rules 2047", x.improve(0, 2047), 3);
        for (int f = 4; f < 12; f++) {
            Kit.due("the next", x.improve(0, f), f);
        }
        Kit.due("the thirteenth", x.improve(0, 0), -2);
        Kit.due("-1 before -2", x.improve(0, 2048), -1);
        Kit.due("-1 before -2", x.improve(1, 0), -1);
        Kit.due("-1 before -2", x.improve(12, 0), -1);
        Kit.due("the twelfth is there", x.length(11, 0), 1);
        Kit.due("no more", x.size(12, 0), -1);
        poolTooLarge();
        poolTooLargeForCatch();
        codeTooLong();
    }

    /** Ints that are folded need the pool: 500 numbers are taken, 501 are not. */
    private static void poolTooLarge() {
        for (int n = 487; n <= 491; n++) {
            Kit.Klass k = new Kit.Klass();
            int left = n;
            for (int m = 0; left > 0; m++) {
                StringBuilder code = new StringBuilder();
                for (int i = 0; i < 148 && left > 0; i++) {
                    code.append("17 ").append(20000 + left).append("; 17 20000; 104; 87; ");
                    left--;
                }
                k.method("m" + m, "()V", 2, 0, code + "177");
            }
            // Code, two names and classes, the methods' type, and a name for each of four methods: 10 in all
            CodeFoundry x = Kit.checked(k);
            boolean fits = 10 + n + 1 <= 500;
            Kit.due(n + " ints", x.improve(0, bit(5)), fits ? 1 : -3);
            Kit.due("applied(5)", x.applied(5), n);
            Kit.due("size(1, 2)", x.size(1, 2), fits ? 10 + n + 1 : -1);
        }
    }

    /** The same, where the CLASS of a catch comes last: it is not left out, nor is its number 0. */
    private static void poolTooLargeForCatch() {
        for (int n = 484; n <= 490; n++) {
            Kit.Klass k = new Kit.Klass();
            int left = n;
            for (int m = 0; left > 0; m++) {
                StringBuilder code = new StringBuilder();
                for (int i = 0; i < 148 && left > 0; i++) {
                    code.append("17 ").append(20000 + left).append("; 17 20000; 104; 87; ");
                    left--;
                }
                String[] handlers = left > 0 ? new String[0] : new String[] {"f t h DivideError"};
                k.method("m" + m, "()V", 2, 0, "f: " + code + "t: 177; h: 87; 177", handlers);
            }
            CodeFoundry x = Kit.checked(k);
            boolean fits = 12 + n + 1 <= 500;
            Kit.due(n + " ints and a CLASS", x.improve(0, bit(5)), fits ? 1 : -3);
            Kit.due("size(1, 2)", x.size(1, 2), fits ? 12 + n + 1 : -1);
        }
    }

    /** A push of an int made a long's is a byte longer: 1200 bytes are taken, 1201 are not. */
    private static void codeTooLong() {
        for (int more = 0; more <= 2; more++) {
            String code = "6; 133; 88; ".repeat(299) + "0; ".repeat(2 + more);
            // 299 windows of three bytes become four each
            CodeFoundry x = Kit.checked(new Kit.Klass().method("m", "()V", 2, 0, code + "177"));
            int size = 299 * 4 + 2 + more + 1;
            Kit.due(size + " bytes", x.improve(0, bit(6)), size <= 1200 ? 1 : -3);
            Kit.due("applied(6)", x.applied(6), 299);
        }
        for (int more = 0; more <= 2; more++) {
            String code = "6; 133; 88; ".repeat(299) + "0; ".repeat(3 + more);
            CodeFoundry x = Kit.checked(new Kit.Klass().method("m", "()V", 2, 0, code + "177"));
            Kit.due("without the nops", x.improve(0, bit(6) | bit(4)), 1);
        }
    }

    /** "what improve() and count() make is a file as if it had been written and read"; "a file never changes". */
    private static void asWrittenAndRead() {
        Kit.Klass k = klass("17 3; 87; 196 21 0; 87; 200 @a; a: 177; 0; 0");
        k.intEntry(99);
        k.nameEntry("unused");
        CodeFoundry x = Kit.checked(k);
        int pool = x.size(0, 2);
        Kit.due("improve(0, 0)", x.improve(0, 0), 1);
        Kit.due("not checked", x.height(1, 0, 0), -1);
        Kit.due("not checked", x.stage(1), false);
        Kit.due("not checked", x.write(1), -1);
        Kit.due("not checked", x.count(1), -1);
        Kit.due("verify(1)", x.verify(1), 0);
        Kit.due("height(1, 0, 1)", x.height(1, 0, 1), 1);
        int n = x.write(0);
        Kit.due("size(1, 2) as written", x.size(1, 2), x.byteAt(8) << 8 | x.byteAt(9));
        Kit.due("write(1)", x.write(1), n);
        Kit.due("size(0, 2) as it was read", x.size(0, 2), pool);
        Kit.due("length(1, 0)", x.length(1, 0), 8);
        Kit.due("improve(0, 2047)", x.improve(0, ALL), 2);
        Kit.due("length(2, 0)", x.length(2, 0), 1);
        Kit.due("length(0, 0)", x.length(0, 0), 8);
        Kit.due("rule() is of file() alone", x.rule(), 0);
    }

    /** Promise 29: "in the latest improve(); 0 if there was none, or no such rule". */
    private static void applied() {
        CodeFoundry x = new CodeFoundry();
        for (int r = -1; r <= 12; r++) {
            Kit.due("none", x.applied(r), 0);
        }
        x = Kit.checked(klass("0; 0; 0; 4; 87; 177; 0"));
        Kit.due("improve", x.improve(0, ALL), 1);
        int[] want = {0, 1, 0, 0, 3, 0, 0, 0, 0, 1, 0, 0, 0};
        for (int r = 0; r < want.length; r++) {
            Kit.due("applied(" + r + ")", x.applied(r), want[r]);
        }
        for (int r : new int[] {-1, 13, Integer.MIN_VALUE, Integer.MAX_VALUE}) {
            Kit.due("no rule " + r, x.applied(r), 0);
        }
        x.count(0);
        Kit.due("count() is no improve()", x.applied(4), 3);
        x.verify(0);
        x.write(0);
        Kit.due("other calls leave it", x.applied(4), 3);
        Kit.due("improve", x.improve(0, bit(9)), 3);
        Kit.due("the latest", x.applied(4), 0);
        Kit.due("the latest", x.applied(9), 1);
        // of all methods together
        CodeFoundry y = Kit.checked(new Kit.Klass().method("a", "()V", 0, 0, "0; 177").method("b", "()V", 0, 0, "177")
                .method("c", "()V", 0, 0, "0; 0; 177"));
        Kit.due("improve", y.improve(0, ALL), 1);
        Kit.due("applied(4)", y.applied(4), 3);
        // no methods, no rules
        CodeFoundry z = Kit.checked(new Kit.Klass());
        Kit.due("improve", z.improve(0, ALL), 1);
        Kit.due("applied(1)", z.applied(1), 0);
        Kit.due("size(1, 1)", z.size(1, 1), 0);
    }
}
