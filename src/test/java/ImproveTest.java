import java.util.Arrays;

/** Promises 28 and 29: improve, applied. */
public final class ImproveTest {
    private static final int ALL = 2047;

    public static void main(String[] args) {
        answers();
        unreached();
        gotos();
        nops();
        folds();
        decided();
        neutral();
        pops();
        stores();
        windows();
        theLast();
        rounds();
        ranges();
        refused();
        sixteen();
        sameRuns();
        Kit.finish("ImproveTest");
    }

    static Kit.Klass klass(String code, String... handlers) {
        return new Kit.Klass().field("i", "I").field("l", "J").method("m", "(IJ)V", 12, 12, code, handlers);
    }

    /** What the rules make of the code of a method, and how often each did something (rule, times, ..). */
    static void better(int rules, String before, String after, int... applied) {
        better(rules, klass(before), klass(after), applied);
    }

    static void better(int rules, Kit.Klass before, Kit.Klass after, int... applied) {
        CodeFoundry x = Kit.checked(before);
        String what = "improve(0, " + rules + ")";
        Kit.due(what, x.improve(0, rules), 1);
        for (int r = 1; r <= 11; r++) {
            int want = 0;
            for (int k = 0; k < applied.length; k += 2) {
                want += applied[k] == r ? applied[k + 1] : 0;
            }
            Kit.due("applied(" + r + ")", x.applied(r), want);
        }
        Kit.due("verify(1)", x.verify(1), 0);
        byte[] got = Kit.written(x, 1);
        byte[] want = Kit.written(Kit.checked(after), 0);
        Kit.due(what + " as told", Arrays.equals(got, want), true);
        if (!Arrays.equals(got, want)) {
            System.out.println(Arrays.toString(got));
            System.out.println(Arrays.toString(want));
        }
    }

    private static int bit(int r) {
        return 1 << r - 1;
    }

    private static void answers() {
        CodeFoundry x = new CodeFoundry();
        Kit.due("applied(1)", x.applied(1), 0);
        Kit.due("no file", x.improve(0, 0), -1);
        Kit.due("file()", Kit.file(x, klass("0; 0; 177").bytes()), 0);
        Kit.due("not checked", x.improve(0, 0), -1);
        Kit.due("verify(0)", x.verify(0), 0);
        Kit.due("rules -1", x.improve(0, -1), -1);
        Kit.due("rules 2048", x.improve(0, 2048), -1);
        Kit.due("rule 4", x.improve(0, 8), 1);
        Kit.due("applied(4)", x.applied(4), 2);
        Kit.due("applied(0)", x.applied(0), 0);
        Kit.due("applied(12)", x.applied(12), 0);
        Kit.due("applied(-1)", x.applied(-1), 0);
        Kit.due("length(0, 0)", x.length(0, 0), 3);
        Kit.due("length(1, 0)", x.length(1, 0), 1);
        Kit.due("not checked yet", x.improve(1, 0), -1);
        Kit.due("the latest improve() did nothing", x.applied(4), 0);
        Kit.due("stage(1)", x.stage(1), false);
        Kit.due("verify(1)", x.verify(1), 0);
        Kit.due("no rules", x.improve(1, 0), 2);
        Kit.due("applied(4)", x.applied(4), 0);
        Kit.due("all rules", x.improve(0, ALL), 3);
        Kit.due("rule()", x.rule(), 0);
        Kit.due("size(3, 2)", x.size(3, 2), 12);
        // no rules: as written and read, with the least limits
        better(0, "0; 177; 0; 17 3; 87; 177", "0; 177; 0; 6; 87; 177");
    }

    private static void unreached() {
        better(bit(1), "177; 0; 0; 177", "177", 1, 3);
        better(bit(1), "167 @a; 4; 87; a: 177", "167 @a; a: 177", 1, 2);
        better(bit(1), "26; 153 @a; 167 @b; 0; a: 0; b: 177", "26; 153 @a; 167 @b; a: 0; b: 177", 1, 1);
        better(bit(1), "1; 191; a: 0; 167 @a", "1; 191", 1, 2);
        better(bit(1), "26; 170 @a 0 @b; 0; a: 0; b: 177", "26; 170 @a 0 @b; a: 0; b: 177", 1, 1);
        // AT is reached if one in the range is; a handler of unreached ones goes with them
        better(bit(1), klass("a: 0; b: 177; h: 87; 177; e:", "a b h 0"), klass("a: 0; b: 177; h: 87; 177; e:",
                "a b h 0"));
        better(bit(1), klass("177; a: 0; b: 177; h: 87; 177; e:", "a b h 0"), klass("177"), 1, 4);
        better(bit(1), klass("a: 167 @b; 0; 0; c: 0; b: 177; h: 191; e:", "a c h 0", "c b h 0"),
                klass("a: 167 @b; b: 177; h: 191; e:", "a b h 0"), 1, 3);
    }

    private static void gotos() {
        better(bit(2), "26; 153 @a; 177; a: 167 @b; 0; b: 167 @c; c: 177", "26; 153 @c; 177; a: 167 @c; 0; b: 167 @c; "
                + "c: 177", 2, 2);
        better(bit(2), "a: 167 @b; 177; b: 167 @a", "a: 167 @b; 177; b: 167 @a");
        better(bit(2), "a: 167 @a; 177", "a: 167 @a; 177");
        better(bit(2), "26; 153 @b; 177; a: 167 @b; 177; b: 167 @a",
                "26; 153 @b; 177; a: 167 @b; 177; b: 167 @a");
        // each target of a switch by itself; the last of the row too
        better(bit(2), "26; 170 @a 0 @a @b @a; b: 177; a: 167 @b", "26; 170 @b 0 @b @b @b; b: 177; a: 167 @b", 2, 3);
        better(bit(2), "26; 171 @a 1 @a 2 @b; b: 177; a: 167 @b", "26; 171 @b 1 @b 2 @b; b: 177; a: 167 @b", 2, 2);
        better(bit(2), "167 @b; a: 177; c: 167 @a; b: 167 @c", "167 @a; a: 177; c: 167 @a; b: 167 @a", 2, 2);
        better(bit(3), "167 @a; a: 167 @b; b: 26; 153 @c; 167 @c; c: 177", "26; 153 @c; c: 177", 3, 3);
        better(bit(3), "0; 177; 0; a: 167 @a", "0; 177; 0; a: 167 @a");
        // the way of a jump to what goes is handed on
        better(bit(3), "26; 153 @a; 0; a: 167 @b; b: 177", "26; 153 @b; 0; b: 177", 3, 1);
    }

    private static void nops() {
        better(bit(4), "0; 0; 26; 153 @a; 0; a: 0; 177; 0; 0", "26; 153 @a; a: 177; 0", 4, 5);
    }

    private static void fold(String window, String push) {
        boolean wide = push.startsWith("20") || push.equals("9") || push.equals("10");
        String end = wide ? "; 179 field:l:J; 177" : "; 179 field:i:I; 177";
        better(bit(5), window + end, push + end, 5, 1);
        better(ALL - bit(5), window + end, window + end);
    }

    private static void folds() {
        fold("16 20; 16 30; 96", "16 50");
        fold("19 int:2147483647; 4; 96", "19 int:-2147483648");
        fold("5; 16 9; 100", "16 -7");
        fold("17 300; 17 300; 104", "19 int:90000");
        fold("16 -7; 5; 108", "16 -3");
        fold("19 int:-2147483648; 2; 108", "19 int:-2147483648");
        fold("16 -7; 5; 112", "2");
        fold("4; 16 33; 120", "5");
        fold("16 -9; 5; 122", "16 -3");
        fold("2; 16 28; 124", "16 15");
        fold("16 12; 16 10; 126", "16 8");
        fold("16 12; 16 10; 128", "16 14");
        fold("16 12; 16 10; 130", "16 6");
        fold("20 long:5; 20 long:7; 97", "20 long:12");
        fold("20 long:5; 20 long:7; 101", "20 long:-2");
        fold("20 long:5; 20 long:7; 105", "20 long:35");
        fold("20 long:-70; 20 long:7; 109", "20 long:-10");
        fold("20 long:-71; 20 long:7; 113", "20 long:-1");
        fold("20 long:-9223372036854775808; 20 long:-1; 109", "20 long:-9223372036854775808");
        fold("10; 16 65; 121", "20 long:2");
        fold("20 long:-9; 4; 123", "20 long:-5");
        fold("20 long:-1; 16 60; 125", "20 long:15");
        fold("20 long:6; 20 long:3; 127", "20 long:2");
        fold("20 long:6; 20 long:3; 129", "20 long:7");
        fold("20 long:6; 20 long:3; 131", "20 long:5");
        fold("20 long:6; 20 long:3; 148", "4");
        fold("20 long:3; 20 long:6; 148", "2");
        fold("20 long:3; 20 long:3; 148", "3");
        // not by 0
        for (String window : new String[] {"4; 3; 108; 87", "4; 3; 112; 87", "10; 9; 109; 88", "10; 9; 113; 88"}) {
            better(bit(5), window + "; 177", window + "; 177");
        }
        // kinds must fit: what is not reached is not checked
        better(bit(5), "177; 4; 9; 96; 9; 4; 97; 9; 9; 121; 177", "177; 4; 9; 96; 9; 4; 97; 9; 9; 121; 177");
        better(bit(5), "4; 5; 6; 96; 96; 87; 177", "16 6; 87; 177", 5, 2);
        better(bit(5), "4; 5; 96; 6; 96; 87; 177", "16 6; 87; 177", 5, 2);
        better(bit(5), "26; 4; 96; 87; 177", "26; 4; 96; 87; 177");
        String[][] unary = {{"5; 116", "16 -2; 179 field:i:I"}, {"19 int:-2147483648; 116", "19 int:-2147483648; 179 field:i:I"},
            {"20 long:7; 117", "20 long:-7; 179 field:l:J"}, {"2; 133", "20 long:-1; 179 field:l:J"},
            {"20 long:4294967301; 136", "8; 179 field:i:I"}, {"17 200; 145", "16 -56; 179 field:i:I"},
            {"2; 146", "19 int:65535; 179 field:i:I"}, {"19 int:65535; 147", "2; 179 field:i:I"}};
        for (String[] u : unary) {
            better(bit(6), u[0] + u[1].substring(u[1].indexOf(';')) + "; 177", u[1] + "; 177", 6, 1);
        }
        better(bit(6), "177; 9; 116; 4; 117; 9; 133; 4; 136; 177", "177; 9; 116; 4; 117; 9; 133; 4; 136; 177");
        better(bit(6), "5; 116; 133; 136; 145; 87; 177", "16 -2; 87; 177", 6, 4);
        better(bit(6), "26; 116; 87; 177", "26; 116; 87; 177");
    }

    private static void decided() {
        int[] values = {-1, 0, 1};
        boolean[][] taken = {{false, true, false}, {true, false, true}, {true, false, false}, {false, true, true},
            {false, false, true}, {true, true, false}};
        for (int op = 0; op < 6; op++) {
            for (int v = 0; v < 3; v++) {
                String rest = "; 0; 177; a: 4; 87; 177";
                String after = taken[op][v] ? "167 @a" : "0";
                String want = taken[op][v] ? after + rest : rest.substring(2);
                better(bit(7), "16 " + values[v] + "; " + (153 + op) + " @a" + rest, want, 7, 1);
                better(bit(7), "17 " + (values[v] + 70) + "; 16 70; " + (159 + op) + " @a" + rest, want, 7, 1);
            }
        }
        // the way that a jump to the window had is handed on
        better(bit(7), "26; 153 @b; 0; b: 4; 153 @a; 0; a: 177", "26; 153 @b; 0; b: 0; a: 177", 7, 1);
        better(bit(7), "26; 153 @b; 0; b: 3; 153 @a; 0; a: 177", "26; 153 @b; 0; b: 167 @a; 0; a: 177", 7, 1);
        better(bit(7), "177; 9; 153 @a; a: 9; 4; 159 @a; 177", "177; 9; 153 @a; a: 9; 4; 159 @a; 177");
    }

    private static void neutral() {
        for (String op : new String[] {"96", "100", "128", "130", "120", "122", "124"}) {
            better(bit(8), "26; 3; " + op + "; 87; 177", "26; 87; 177", 8, 1);
            better(bit(8), "26; 4; " + op + "; 87; 177", "26; 4; " + op + "; 87; 177");
        }
        for (String op : new String[] {"97", "101", "129", "131"}) {
            better(bit(8), "31; 9; " + op + "; 88; 177", "31; 88; 177", 8, 1);
            better(bit(8), "31; 10; " + op + "; 88; 177", "31; 10; " + op + "; 88; 177");
        }
        for (String op : new String[] {"121", "123", "125"}) {
            better(bit(8), "31; 3; " + op + "; 88; 177", "31; 88; 177", 8, 1);
        }
        for (String op : new String[] {"104", "108"}) {
            better(bit(8), "26; 4; " + op + "; 87; 177", "26; 87; 177", 8, 1);
            better(bit(8), "26; 3; " + op + "; 87; 177", "26; 3; " + op + "; 87; 177");
        }
        for (String op : new String[] {"105", "109"}) {
            better(bit(8), "31; 10; " + op + "; 88; 177", "31; 88; 177", 8, 1);
        }
        better(bit(8), "26; 2; 126; 87; 177", "26; 87; 177", 8, 1);
        better(bit(8), "31; 20 long:-1; 127; 88; 177", "31; 88; 177", 8, 1);
        for (String code : new String[] {"26; 4; 112; 87; 177", "26; 3; 126; 87; 177", "31; 10; 113; 88; 177",
            "177; 9; 96; 3; 97; 9; 121; 10; 104; 4; 105; 177"}) {
            better(bit(8), code, code);
        }
    }

    private static void pops() {
        better(bit(9), "4; 87; 1; 87; 26; 87; 9; 88; 31; 88; 19 int:70000; 87; 177", "177", 9, 6);
        better(bit(9), "1; 58 5; 25 5; 87; 177", "1; 58 5; 177", 9, 1);
        better(bit(9), "4; 5; 88; 177", "4; 5; 88; 177");
        better(bit(9), "178 field:i:I; 87; 177", "178 field:i:I; 87; 177");
        better(bit(9), "4; 89; 87; 87; 177", "4; 89; 87; 87; 177");
        better(bit(9), "4; 5; 87; 87; 177", "177", 9, 2);
        better(bit(9), "177; 9; 87; 4; 88; 177", "177; 9; 87; 4; 88; 177");
    }

    private static void stores() {
        better(bit(10), "4; 54 5; 21 5; 87; 9; 55 5; 22 5; 88; 1; 58 5; 25 5; 87; 177", "4; 87; 9; 88; 1; 87; 177",
                10, 3);
        // live behind: loaded again, grown, or one half of a long
        better(bit(10), "4; 54 5; 21 5; 87; 21 5; 87; 177", "4; 54 5; 21 5; 87; 21 5; 87; 177");
        better(bit(10), "4; 54 5; 21 5; 87; 132 5 1; 177", "4; 54 5; 21 5; 87; 132 5 1; 177");
        better(bit(10), "4; 54 5; 21 5; 87; 4; 54 5; 21 5; 87; 177", "4; 87; 4; 87; 177", 10, 2);
        better(bit(10), "4; 54 6; 9; 55 5; 22 5; 88; 4; 54 6; 21 6; 87; 177", "4; 54 6; 9; 88; 4; 87; 177", 10, 2);
        better(bit(10), "9; 55 5; 22 5; 88; 4; 54 5; 177; 26; 21 6; 87; 177",
                "9; 88; 4; 54 5; 177; 26; 21 6; 87; 177", 10, 1);
        better(bit(10), "4; 54 5; 21 6; 87; 177".replace("21 6", "26"), "4; 54 5; 26; 87; 177");
        better(bit(11), "4; 54 5; 177", "4; 87; 177", 11, 1);
        better(bit(11), "9; 55 5; 1; 58 5; 132 0 1; 177", "9; 88; 1; 87; 177", 11, 3);
        better(bit(11), "4; 54 5; 132 5 1; 177", "4; 87; 177", 11, 2);
        better(bit(11), "4; 54 5; 132 5 1; 21 5; 87; 177", "4; 54 5; 132 5 1; 21 5; 87; 177");
        better(bit(11), "a: 26; 132 0 -1; 154 @a; 177", "a: 26; 132 0 -1; 154 @a; 177");
        better(bit(11), "4; 54 5; 26; 153 @a; 21 5; 87; a: 177", "4; 54 5; 26; 153 @a; 21 5; 87; a: 177");
        better(bit(11), "4; 54 5; 26; 153 @a; 5; 54 5; a: 21 5; 87; 177",
                "4; 54 5; 26; 153 @a; 5; 54 5; a: 21 5; 87; 177");
        // a handler keeps what it loads alive in all of its range
        better(bit(11), klass("a: 4; 54 5; 5; 54 5; b: 177; h: 87; 21 0; 87; 177; e:", "a b h 0"),
                klass("a: 4; 87; 5; 87; b: 177; h: 87; 21 0; 87; 177; e:", "a b h 0"), 11, 2);
        better(bit(11), klass("4; 54 5; a: 5; 54 5; b: 177; h: 87; 21 5; 87; 177; e:", "a b h 0"),
                klass("4; 54 5; a: 5; 87; b: 177; h: 87; 21 5; 87; 177; e:", "a b h 0"), 11, 1);
        better(bit(11), klass("4; 54 5; a: 5; 54 5; 0; b: 177; h: 87; 21 5; 87; 177; e:", "a b h 0"),
                klass("4; 54 5; a: 5; 54 5; 0; b: 177; h: 87; 21 5; 87; 177; e:", "a b h 0"));
        // jumps to a store stay
        better(bit(11), "4; 26; 153 @a; 0; a: 54 5; 177", "4; 26; 153 @a; 0; a: 87; 177", 11, 1);
    }

    private static void windows() {
        better(bit(5), "26; 4; 95; 153 @a; 87; 5; a: 6; 96; 87; 177", "26; 4; 95; 153 @a; 87; 5; a: 6; 96; 87; 177");
        better(bit(5), "26; 153 @a; 0; a: 4; 5; 96; 87; 177", "26; 153 @a; 0; a: 6; 87; 177", 5, 1);
        for (String handler : new String[] {"a b h 0", "b c h 0", "c d h 0"}) {
            String code = "a: 4; b: 5; c: 96; d: 87; 177; h: 87; 177; e:";
            better(bit(5), klass(code, handler), klass(code, handler));
        }
        better(bit(5), klass("a: 4; 5; 96; d: 87; 177; h: 87; 177; e:", "a d h 0"),
                klass("a: 6; d: 87; 177; h: 87; 177; e:", "a d h 0"), 5, 1);
        better(bit(9), klass("0; a: 4; b: 87; 177; h: 87; 177; e:", "a b h 0"),
                klass("0; a: 4; b: 87; 177; h: 87; 177; e:", "a b h 0"));
        // AT inside a window
        better(bit(9), klass("a: 0; b: 1; h: 87; 177; e:", "a b h 0"), klass("a: 0; b: 1; h: 87; 177; e:", "a b h 0"));
    }

    private static void theLast() {
        better(bit(4), "177; 0", "177; 0");
        better(bit(5), "177; 4; 5; 96", "177; 4; 5; 96");
        better(bit(5), "177; 4; 5; 96; 0", "177; 6; 0", 5, 1);
        better(bit(6), "177; 4; 116", "177; 4; 116");
        better(bit(7), "a: 177; 3; 153 @a", "a: 177; 3; 153 @a");
        better(bit(8), "177; 3; 96", "177; 3; 96");
        better(bit(9), "177; 4; 87", "177; 4; 87");
        better(bit(10), "177; 4; 54 5; 21 5", "177; 4; 54 5; 21 5");
        better(bit(11), "177; 4; 54 5", "177; 4; 54 5");
        better(bit(1), "177; 4; 54 5", "177", 1, 2);
    }

    private static void rounds() {
        better(ALL, "4; 5; 6; 96; 96; 87; 0; 167 @a; a: 177", "177", 3, 1, 4, 1, 5, 2, 9, 1);
        // rule 5 makes a push for rule 7, whose goto leaves code for rule 1 in the next round
        better(ALL, "4; 4; 100; 153 @a; 26; 87; 0; a: 177", "177", 5, 1, 7, 1, 1, 0, 3, 1, 9, 1, 4, 1);
        better(bit(1) | bit(7), "3; 153 @a; 26; 87; 0; a: 177", "167 @a; a: 177", 7, 1, 1, 3);
        better(bit(10) | bit(9), "4; 54 5; 21 5; 87; 177", "4; 54 5; 177", 9, 1);
        better(bit(10) | bit(4), "4; 54 5; 0; 21 5; 87; 177", "4; 87; 177", 4, 1, 10, 1);
        better(bit(11) | bit(9), "4; 54 5; 177", "177", 11, 1, 9, 1);
        // each round finds one window more, at the end of the row of pushes
        Kit.Klass k = new Kit.Klass().method("m", "()I", 24, 0, "4; ".repeat(24) + "96; ".repeat(23) + "172");
        CodeFoundry x = Kit.checked(k);
        Kit.due("improve(0, 16)", x.improve(0, 16), 1);
        Kit.due("applied(5)", x.applied(5), 23);
        Kit.due("length(1, 0)", x.length(1, 0), 2);
        // a chain that needs a round for each: stores that die one by one
        StringBuilder chain = new StringBuilder("26; ");
        for (int i = 0; i < 3; i++) {
            chain.append("54 5; 21 5; ");
        }
        better(bit(10), chain + "87; 177", "26; 87; 177", 10, 3);
    }

    private static void ranges() {
        // a handler whose range gets empty goes, and with it what only it reached
        better(bit(4), klass("a: 0; 0; b: 177; h: 87; 177; e:", "a b h 0"), klass("177; h: 87; 177"), 4, 2);
        better(bit(4) | bit(1), klass("a: 0; b: 177; h: 87; 177; e:", "a b h 0"), klass("177"), 4, 1, 1, 2);
        better(bit(4), klass("0; a: 0; 4; b: 0; 87; 177; h: 0; 87; 177; e:", "a b h 0", "b e h SizeError"),
                klass("a: 4; b: 87; 177; h: 87; 177; e:", "a b h 0", "b e h SizeError"), 4, 4);
        better(bit(9), klass("a: 4; 87; b: 5; 87; c: 177; h: 87; 177; e:", "a b h 0", "a c h NullError", "c e h 0"),
                klass("c: 177; h: 87; 177; e:", "c e h 0"), 9, 2);
    }

    private static void refused() {
        // folds make more ints than a pool can have
        Kit.Klass k = new Kit.Klass();
        int v = 0;
        for (int m = 0; m < 6; m++) {
            StringBuilder code = new StringBuilder();
            for (int i = 0; i < 84; i++) {
                code.append("17 ").append(1000 + v).append("; 17 ").append(20000).append("; 104; 87; ");
                v++;
            }
            k.method("m" + m, "()V", 2, 0, code + "177");
        }
        CodeFoundry x = Kit.checked(k);
        Kit.due("improve(0, 16)", x.improve(0, 16), -3);
        Kit.due("applied(5)", x.applied(5), 504);
        Kit.due("size(1, 0)", x.size(1, 0), -1);
        Kit.due("improve(0, 0)", x.improve(0, 0), 1);
        growing();
    }

    private static void growing() {
        // two bytes that push -1 and cut it become three, and the code longer than 1200
        Kit.Klass cut = new Kit.Klass();
        for (int i = 0; i < 250; i++) {
            cut.intEntry(400000 + i);
        }
        StringBuilder used = new StringBuilder();
        for (int i = 0; i < 250; i++) {
            used.append("19 int:").append(400000 + i).append("; 87; ");
        }
        cut.method("a", "()V", 1, 0, used + "177").method("b", "()V", 1, 0, "2; 146; 87; ".repeat(399) + "177");
        CodeFoundry y = Kit.checked(cut);
        Kit.due("improve(0, 32)", y.improve(0, 32), -3);
        Kit.due("applied(6)", y.applied(6), 399);
        Kit.due("improve(0, 288)", y.improve(0, 288), 1);
        // the pool as written has the ints in another order: 18 becomes 19 and the code too long
        Kit.Klass k = new Kit.Klass();
        StringBuilder first = new StringBuilder();
        for (int i = 0; i < 240; i++) {
            k.intEntry(200000 + i);
        }
        for (int i = 0; i < 240; i++) {
            first.append("19 int:").append(300000 + i).append("; 87; ");
        }
        StringBuilder second = new StringBuilder();
        for (int i = 0; i < 399; i++) {
            second.append("18 int:").append(200000 + i % 240).append("; 87; ");
        }
        k.method("a", "()V", 1, 0, first + "177").method("b", "()V", 1, 0, second + "177");
        CodeFoundry x = Kit.checked(k);
        Kit.due("size(0, 2)", x.size(0, 2) <= 500, true);
        int n = x.write(0);
        Kit.due("written all the same", n > 0, true);
        Kit.due("improve(0, 0)", x.improve(0, 0), -3);
        Kit.due("count(0)", x.count(0), -3);
    }

    private static void sixteen() {
        // refused with -3 or not, improve() and count() begin a file sixteen times
        CodeFoundry x = Kit.checked(new Kit.Klass().field("c0", "I").method("m", "()V", 0, 0, "177"));
        for (int i = 0; i < 10; i++) {
            Kit.due("count(0)", x.count(0), -3);
            Kit.due("improve(0, 4096)", x.improve(0, 4096), -1);
            Kit.due("count(7)", x.count(7), -1);
        }
        for (int i = 0; i < 6; i++) {
            Kit.due("improve(0, 0)", x.improve(0, 0), 1 + i);
        }
        Kit.due("improve(0, 0)", x.improve(0, 0), -2);
        Kit.due("count(0)", x.count(0), -2);
        Kit.due("improve(0, -1)", x.improve(0, -1), -1);
        Kit.due("count(9)", x.count(9), -1);
        Kit.due("files can still be read", Kit.file(x, new Kit.Klass().bytes()), 7);
        CodeFoundry y = Kit.checked(new Kit.Klass().method("m", "()V", 0, 0, "0; 177"));
        for (int i = 1; i < 12; i++) {
            Kit.due("improve(0, 8)", y.improve(0, 8), i);
        }
        Kit.due("twelve files", y.improve(0, 8), -2);
        Kit.due("applied(4)", y.applied(4), 0);
        Kit.due("twelve files", y.count(0), -2);
    }

    /** What improve() makes runs as before. */
    private static void sameRuns() {
        Kit.Klass k = new Kit.Klass().field("n", "I")
                .method("m", "(II)I", 6, 6, "3; 61; a: 26; 158 @b; 28; 27; 4; 104; 96; 3; 128; 61; 132 0 -1; "
                        + "8; 54 4; 167 @c; 0; c: 167 @a; b: 28; 54 5; 21 5; 172")
                .method("d", "(II)I", 4, 4, "a: 26; 27; 108; 61; b: 28; 172; h: 87; 4; 4; 100; 153 @z; 0; z: 16 77; "
                        + "172; e:", "a b h DivideError");
        CodeFoundry x = Kit.checked(k);
        Kit.due("improve(0, 2047)", x.improve(0, ALL), 1);
        Kit.due("verify(1)", x.verify(1), 0);
        for (int f = 0; f < 2; f++) {
            Kit.due("stage", x.stage(f), true);
            int[][] runs = {{0, 6, 7, 42}, {0, 0, 9, 0}, {1, 17, 5, 3}, {1, 3, 0, 77}};
            for (int[] r : runs) {
                x.argument(r[1]);
                x.argument(r[2]);
                Kit.due("run", x.run(r[0], 1000), 0);
                Kit.due("result()", x.result(), r[3]);
            }
        }
        Kit.due("shorter", x.size(1, 3) < x.size(0, 3), true);
    }
}
