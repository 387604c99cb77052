/** The edges of term 3, CHECKING, and of promises 9 to 13. */
public final class EdgeCheckTest {
    private static final int NONE = 0;
    private static final int INT = 1;
    private static final int LOW = 2;
    private static final int HIGH = 3;
    private static final int INTS = 4;
    private static final int ERROR = 5;
    private static final int NULL = 6;
    /** Sorts of values: i int, l long, a ints, e error, n null, x none. */
    private static final String SORTS = "ilaenx";

    public static void main(String[] args) {
        placesOfLocals();
        joinsOfLocals();
        joinsOfStacks();
        stores();
        whatGoesOn();
        whatComesToAt();
        takes();
        copies();
        tooFew();
        mostStack();
        catchesWantOne();
        otherHeights();
        theLastOne();
        firstFault();
        heightsByThemselves();
        resultsAsTold();
        returns();
        answers();
        Kit.finish("EdgeCheckTest");
    }

    private static Kit.Klass klass(String type, int stack, int locals, String code, String... handlers) {
        return new Kit.Klass().field("i", "I").field("l", "J").field("a", "[I")
                .method("m", type, stack, locals, code, handlers)
                .method("p", "(IJ[I)J", 2, 4, "9; 173");
    }

    /** Checks a method: the instruction that has its first fault, -1 none. */
    private static CodeFoundry fault(int at, String type, int stack, int locals, String code, String... handlers) {
        CodeFoundry x = new CodeFoundry();
        String what = type + " " + stack + " " + locals + " " + code;
        Kit.due(what + ": file()", Kit.file(x, klass(type, stack, locals, code, handlers).bytes()), 0);
        Kit.due(what + ": verify(0)", x.verify(0), at < 0 ? 0 : 1);
        Kit.due(what + ": method()", x.method(), at < 0 ? -1 : 0);
        Kit.due(what + ": at()", x.at(), at);
        return x;
    }

    private static void locals(CodeFoundry x, int i, int... want) {
        for (int k = 0; k < want.length; k++) {
            Kit.due("local(0, 0, " + i + ", " + k + ")", x.local(0, 0, i, k), want[k]);
        }
    }

    /**
     * Begins a body with one local of each sort: 0 an int, 1 ints, 2 and 3 a long (the parameters), 4 an error, 5 null,
     * 6 none. Its handler is "a h h 0"; it has 5 instructions.
     */
    private static final String BEGIN = "a: 1; 191; h: 58 4; 1; 58 5; ";
    private static final int BEGUN = 5;
    private static final String HANDLER = "a h h 0";
    private static final String TYPE = "(I[IJ)V";
    private static int label;

    private static String push(char sort) {
        switch (sort) {
            case 'i': return "26; ";
            case 'l': return "32; ";
            case 'a': return "43; ";
            case 'e': return "25 4; ";
            case 'n': return "25 5; ";
            default:
                label++;
                return "26; 153 @p" + label + "; 4; 167 @q" + label + "; p" + label + ": 1; q" + label + ": ";
        }
    }

    private static int pushed(char sort) {
        return sort == 'x' ? 5 : 1;
    }

    private static String pushAll(String sorts) {
        StringBuilder code = new StringBuilder();
        for (char c : sorts.toCharArray()) {
            code.append(push(c));
        }
        return code.toString();
    }

    private static int countAll(String sorts) {
        int n = 0;
        for (char c : sorts.toCharArray()) {
            n += pushed(c);
        }
        return n;
    }

    /** "LOW, HIGH: a local k and k + 1"; "A body begins with its parameters, all else NONE"; "k is not 0 .. 23". */
    private static void placesOfLocals() {
        CodeFoundry x = fault(-1, "(JI[IJII)V", 2, 24, "177");
        int[] begin = {LOW, HIGH, INT, INTS, LOW, HIGH, INT, INT};
        locals(x, 0, begin);
        for (int k = 8; k < 24; k++) {
            Kit.due("local " + k, x.local(0, 0, 0, k), NONE);
        }
        Kit.due("local 24", x.local(0, 0, 0, 24), -1);
        Kit.due("local -1", x.local(0, 0, 0, -1), -1);
        Kit.due("least local", x.local(0, 0, 0, Integer.MIN_VALUE), -1);
        Kit.due("greatest local", x.local(0, 0, 0, Integer.MAX_VALUE), -1);
        // each place by itself, and each pair of places
        String[] stores = {"4; 54 ", "9; 55 ", "4; 188 10; 58 ", "1; 58 "};
        int[] types = {INT, LOW, INTS, NULL};
        for (int s = 0; s < stores.length; s++) {
            for (int k = 0; k < (s == 1 ? 23 : 24); k++) {
                x = fault(-1, "()V", 2, 24, stores[s] + k + "; 177");
                int last = s == 2 ? 3 : 2;
                for (int j = 0; j < 24; j++) {
                    int want = j == k ? types[s] : s == 1 && j == k + 1 ? HIGH : NONE;
                    Kit.due("local " + j, x.local(0, 0, last, j), want);
                    Kit.due("local " + j + " before", x.local(0, 0, last - 1, j), NONE);
                }
            }
        }
        // eight places of parameters stand in the first eight locals, of each sort
        x = fault(-1, "(IIIIIIII)V", 0, 8, "177");
        locals(x, 0, INT, INT, INT, INT, INT, INT, INT, INT, NONE);
        x = fault(-1, "(JJJJ)V", 0, 8, "177");
        locals(x, 0, LOW, HIGH, LOW, HIGH, LOW, HIGH, LOW, HIGH, NONE);
        x = fault(-1, "()V", 0, 0, "177");
        locals(x, 0, NONE, NONE);
        // "all else NONE", whatever the method before, or the file before, left there
        x = new CodeFoundry();
        Kit.Klass k = new Kit.Klass().method("a", "(I)V", 2, 9, "9; 55 3; 4; 54 6; 1; 58 7; 0; 177")
                .method("b", "(J)V", 2, 9, "177").method("c", "()V", 2, 9, "21 6; 177");
        Kit.due("file()", Kit.file(x, k.bytes()), 0);
        Kit.due("verify(0)", x.verify(0), 1);
        Kit.due("method()", x.method(), 2);
        Kit.due("at()", x.at(), 0);
        Kit.Klass two = new Kit.Klass().method("a", "(I)V", 2, 9, "9; 55 3; 4; 54 6; 1; 58 7; 0; 177")
                .method("b", "(J)V", 2, 9, "177").method("c", "()V", 2, 9, "177");
        Kit.due("file()", Kit.file(x, two.bytes()), 1);
        Kit.due("verify(1)", x.verify(1), 0);
        int[] second = {LOW, HIGH, NONE, NONE, NONE, NONE, NONE, NONE, NONE};
        for (int j = 0; j < second.length; j++) {
            Kit.due("local(1, 1, 0, " + j + ")", x.local(1, 1, 0, j), second[j]);
            Kit.due("local(1, 2, 0, " + j + ")", x.local(1, 2, 0, j), NONE);
        }
    }

    private static String store(char sort) {
        switch (sort) {
            case 'i': return "26; 54 8; ";
            case 'l': return "32; 55 8; ";
            case 'a': return "43; 58 8; ";
            case 'e': return "25 4; 58 8; ";
            case 'n': return "25 5; 58 8; ";
            default: return "0; 0; ";
        }
    }

    private static int lower(char sort) {
        return new int[] {INT, LOW, INTS, ERROR, NULL, NONE}[SORTS.indexOf(sort)];
    }

    private static int join(int a, int b) {
        if (a == b) {
            return a;
        }
        if (a == NULL && (b == INTS || b == ERROR)) {
            return b;
        }
        return b == NULL && (a == INTS || a == ERROR) ? a : NONE;
    }

    /** "NULL is below INTS and ERROR; all are below NONE; two join to the least above both". */
    private static void joinsOfLocals() {
        for (char one : SORTS.toCharArray()) {
            for (char two : SORTS.toCharArray()) {
                CodeFoundry x = fault(-1, TYPE, 4, 12, BEGIN + "26; 153 @u; " + store(one) + "167 @v; u: " + store(two)
                        + "v: 177", HANDLER);
                int at = BEGUN + 7;
                Kit.due(one + " with " + two, x.local(0, 0, at, 8), join(lower(one), lower(two)));
                Kit.due("and behind it", x.local(0, 0, at, 9), one == 'l' && two == 'l' ? HIGH : NONE);
                // three ways: the third is null
                x = fault(-1, TYPE, 4, 12, BEGIN + "26; 170 @u 0 @w @z; w: " + store(one) + "167 @v; z: " + store('n')
                        + "167 @v; u: " + store(two) + "v: 177", HANDLER);
                Kit.due("null, " + one + " and " + two, x.local(0, 0, BEGUN + 10, 8),
                        join(NULL, join(lower(one), lower(two))));
            }
        }
    }

    /** "stacks must have the same height, and join too": what was joined is taken, or not. */
    private static void joinsOfStacks() {
        for (char one : SORTS.toCharArray()) {
            for (char two : SORTS.toCharArray()) {
                if ((one == 'l') != (two == 'l') || one == 'x' || two == 'x') {
                    continue;
                }
                int type = one == 'l' ? LOW : join(lower(one), lower(two));
                String code = BEGIN + "26; 153 @u; " + push(one) + "167 @v; u: " + push(two) + "v: ";
                int at = BEGUN + 5;
                fault(-1, TYPE, 4, 12, code + "177", HANDLER);
                fault(type == INT || type == INTS || type == ERROR || type == NULL ? -1 : at, TYPE, 4, 12,
                        code + "87; 177", HANDLER);
                fault(type == INT ? -1 : at, TYPE, 4, 12, code + "59; 177", HANDLER);
                fault(type == INTS || type == NULL ? -1 : at, TYPE, 4, 12, code + "190; 177", HANDLER);
                fault(type == ERROR || type == NULL ? -1 : at, TYPE, 4, 12, code + "191", HANDLER);
                fault(type == INTS || type == NULL || type == ERROR ? -1 : at, TYPE, 4, 12, code + "198 @y; y: 177",
                        HANDLER);
                fault(type == LOW ? -1 : at, TYPE, 4, 12, code + "63; 177", HANDLER);
            }
        }
        // what comes back goes on from where it came to, as often as it changes something
        fault(4, "(I)V", 4, 4, "4; 60; a: 0; 0; 27; 87; 1; 76; 167 @a");
        CodeFoundry x = fault(-1, "(I)V", 4, 4, "4; 60; a: 0; 0; 0; 1; 76; 167 @a");
        for (int i = 2; i < 5; i++) {
            locals(x, i, INT, NONE);
        }
        fault(6, "(I)V", 4, 6, "4; 54 5; 4; 54 4; a: 21 4; 87; 21 5; 54 4; 1; 58 5; 167 @a");
        x = fault(-1, "(I)V", 4, 6, "1; 58 1; 1; 58 2; 1; 58 3; a: 25 2; 58 1; 25 3; 58 2; 4; 188 10; 58 3; 26; 153 @a; "
                + "177");
        locals(x, 6, INT, INTS, INTS, INTS);
        locals(x, 15, INT, INTS, INTS, INTS);
        // halves joined with others of one place are none
        fault(7, "(I)V", 4, 4, "26; 153 @u; 9; 167 @v; u: 4; 5; 0; v: 88; 177");
        fault(7, "(I)V", 4, 4, "26; 153 @u; 9; 167 @v; u: 4; 5; 0; v: 92; 177");
        fault(-1, "(I)V", 4, 4, "26; 153 @u; 9; 167 @v; u: 10; v: 92; 177");
    }

    /** "A store makes a LOW right before its places, and a HIGH right behind them, NONE". */
    private static void stores() {
        int[] longs = {LOW, HIGH, LOW, HIGH, LOW, HIGH, LOW, HIGH};
        for (int k = 0; k < 8; k++) {
            for (String store : new String[] {"4; 54 ", "1; 58 ", "9; 55 "}) {
                int width = store.startsWith("9") ? 2 : 1;
                int[] want = longs.clone();
                if (k > 0 && want[k - 1] == LOW) {
                    want[k - 1] = NONE;
                }
                if (k + width < 8 && want[k + width] == HIGH) {
                    want[k + width] = NONE;
                }
                want[k] = width == 2 ? LOW : store.startsWith("4") ? INT : NULL;
                if (width == 2 && k < 7) {
                    want[k + 1] = HIGH;
                }
                CodeFoundry x = fault(-1, "(JJJJ)V", 2, 9, store + k + "; 177");
                locals(x, 2, want);
                Kit.due("local 8", x.local(0, 0, 2, 8), width == 2 && k == 7 ? HIGH : NONE);
            }
        }
        // what is no half stays: an int before, ints behind
        CodeFoundry x = fault(-1, "(I[I[II)V", 2, 5, "4; 60; 9; 64; 177");
        locals(x, 2, INT, INT, INTS, INT, NONE);
        locals(x, 4, INT, LOW, HIGH, INT, NONE);
        // at the ends of the locals there is nothing before or behind
        x = fault(-1, "()V", 2, 24, "9; 55 22; 9; 55 0; 4; 54 0; 4; 54 23; 177");
        Kit.due("22", x.local(0, 0, 4, 22), LOW);
        Kit.due("23", x.local(0, 0, 4, 23), HIGH);
        Kit.due("0", x.local(0, 0, 4, 0), LOW);
        Kit.due("0", x.local(0, 0, 6, 0), INT);
        Kit.due("1", x.local(0, 0, 6, 1), NONE);
        Kit.due("22", x.local(0, 0, 8, 22), NONE);
        Kit.due("23", x.local(0, 0, 8, 23), INT);
        // grown locals stay ints, and their neighbours stay what they are
        x = fault(-1, "(JIJ)V", 2, 5, "132 2 1; 177");
        locals(x, 1, LOW, HIGH, INT, LOW, HIGH);
        // loads leave all as it is
        x = fault(-1, "(JIJ)V", 2, 5, "28; 177");
        locals(x, 1, LOW, HIGH, INT, LOW, HIGH);
    }

    /** "goes on to the next (but not from goto, throw, returns, switches) and to its jumps' targets". */
    private static void whatGoesOn() {
        String[] ends = {"167 @z", "200 @z", "1; 191", "26; 170 @z 0 @z", "26; 171 @z 1 @z", "177"};
        for (String end : ends) {
            int n = end.contains(";") ? 2 : 1;
            CodeFoundry x = fault(-1, "(I)V", 4, 4, end + "; 87; z: 177");
            Kit.due(end + ": behind it", x.height(0, 0, n), -1);
            Kit.due(end + ": local behind it", x.local(0, 0, n, 0), -1);
            Kit.due(end + ": target", x.height(0, 0, n + 1), end.contains("@") ? 0 : -1);
        }
        for (String type : new String[] {"I 3; 172", "J 9; 173", "[I 1; 176"}) {
            String[] t = type.split(" ", 2);
            CodeFoundry x = fault(-1, "()" + t[0], 4, 4, t[1] + "; 87; 87; 177");
            Kit.due(type, x.height(0, 0, 2), -1);
        }
        for (int op = 153; op <= 199; op = op == 166 ? 198 : op + 1) {
            String one = op >= 165 ? "43; " : "26; ";
            String jump = (op >= 159 && op <= 166 ? one + one : one) + op + " @z";
            int n = jump.split(";").length;
            CodeFoundry x = fault(-1, "(I[I)V", 4, 4, jump + "; 4; 87; 177; z: 177");
            Kit.due(jump + ": behind it", x.height(0, 0, n), 0);
            Kit.due(jump + ": target", x.height(0, 0, n + 3), 0);
        }
        // every target of a switch, the default too
        CodeFoundry x = fault(-1, "(I)V", 4, 4, "5; 26; 170 @d 0 @e @f; 0; d: 177; e: 177; f: 177");
        for (int i = 4; i < 7; i++) {
            Kit.due("target " + i, x.height(0, 0, i), 1);
        }
        x = fault(-1, "(I)V", 4, 4, "5; 26; 171 @d 0 @e 9 @f; 0; d: 177; e: 177; f: 177");
        for (int i = 4; i < 7; i++) {
            Kit.due("target " + i, x.height(0, 0, i), 1);
        }
    }

    /** "what is before it, with a stack of ERROR alone, to AT of each catch that has it". */
    private static void whatComesToAt() {
        // a long stack before, one place at AT; the store of the last one in the range is not seen there
        CodeFoundry x = fault(-1, "(I)V", 4, 6, "4; 5; 6; a: 54 2; b: 88; 177; h: 58 3; 177", "a b h 0");
        Kit.due("height", x.height(0, 0, 6), 1);
        locals(x, 6, INT, NONE, NONE, NONE);
        locals(x, 7, INT, NONE, NONE, ERROR);
        // one instruction more in the range: both ways come together
        x = fault(-1, "(I)V", 4, 6, "4; 54 2; a: 4; 54 2; b: 177; h: 58 3; 177", "a b h 0");
        locals(x, 5, INT, NONE, INT, NONE);
        x = fault(-1, "(I)V", 4, 6, "4; 54 2; a: 1; 58 2; 0; b: 177; h: 58 3; 177", "a b h 0");
        locals(x, 6, INT, NONE, NONE, NONE);
        // what is before it, not what the one before it in the row left
        x = fault(-1, "(I)V", 4, 6, "26; 153 @a; 4; 60; 177; a: 0; b: 177; h: 87; 177", "a b h 0");
        locals(x, 7, INT, NONE, NONE);
        // TO itself is not in the range, FROM is
        x = fault(-1, "(I)V", 4, 6, "a: 4; b: 54 2; c: 0; 177; h: 87; 177", "b c h 0");
        locals(x, 4, INT, NONE, NONE);
        // each catch that has it, not the first one alone
        x = fault(-1, "(I)V", 4, 6, "a: 0; b: 177; h: 87; 177; i: 87; 177; j: 87; 177", "a b h NullError",
                "a b i NullError", "a b j 0");
        for (int i : new int[] {2, 4, 6}) {
            Kit.due("AT " + i, x.height(0, 0, i), 1);
        }
        // to the end of the code
        x = fault(-1, "(I)V", 4, 6, "167 @z; h: 87; 177; z: 0; 177; e:", "z e h 0");
        Kit.due("AT", x.height(0, 0, 1), 1);
        // a range that is not come to hands nothing on
        x = fault(-1, "(I)V", 4, 6, "177; a: 0; b: 177; h: 87; 87; 177", "a b h 0");
        Kit.due("AT", x.height(0, 0, 3), -1);
        // AT in its own range
        x = fault(-1, "(I)V", 4, 6, "a: 0; 177; h: 191; e:", "a e h 0");
        Kit.due("AT", x.height(0, 0, 2), 1);
        // ERROR, not NULL nor INTS, is on the stack
        fault(2, "(I)V", 4, 6, "a: 0; b: 177; h: 190; 87; 177", "a b h 0");
        fault(2, "(I)V", 4, 6, "a: 0; b: 177; h: 59; 177", "a b h 0");
        fault(2, "(I)V", 4, 6, "a: 0; b: 177; h: 179 field:a:[I; 177", "a b h 0");
        fault(-1, "(I)V", 4, 6, "a: 0; b: 177; h: 191", "a b h 0");
        fault(-1, "(I)V", 4, 6, "a: 0; b: 177; h: 89; 165 @z; z: 177", "a b h 0");
    }

    /** Of an instruction: its text, the sorts that it takes, an 'e' for ERROR or NULL, an 'r' for any reference. */
    private static final String[][] TAKES = {
        {"46", "ai"}, {"79", "aii"}, {"54 8", "i"}, {"55 8", "l"}, {"58 8", "r"}, {"59", "i"}, {"63", "l"},
        {"75", "r"}, {"96", "ii"}, {"97", "ll"}, {"100", "ii"}, {"101", "ll"}, {"104", "ii"}, {"105", "ll"},
        {"108", "ii"}, {"109", "ll"}, {"112", "ii"}, {"113", "ll"}, {"116", "i"}, {"117", "l"}, {"120", "ii"},
        {"121", "li"}, {"122", "ii"}, {"123", "li"}, {"124", "ii"}, {"125", "li"}, {"126", "ii"}, {"127", "ll"},
        {"128", "ii"}, {"129", "ll"}, {"130", "ii"}, {"131", "ll"}, {"133", "i"}, {"136", "l"}, {"145", "i"},
        {"146", "i"}, {"147", "i"}, {"148", "ll"}, {"153 @e", "i"}, {"154 @e", "i"}, {"155 @e", "i"},
        {"156 @e", "i"}, {"157 @e", "i"}, {"158 @e", "i"}, {"159 @e", "ii"}, {"160 @e", "ii"}, {"161 @e", "ii"},
        {"162 @e", "ii"}, {"163 @e", "ii"}, {"164 @e", "ii"}, {"165 @e", "rr"}, {"166 @e", "rr"}, {"198 @e", "r"},
        {"199 @e", "r"}, {"170 @e 0 @e", "i"}, {"171 @e", "i"}, {"179 field:i:I", "i"}, {"179 field:l:J", "l"},
        {"179 field:a:[I", "a"}, {"184 call:p:(IJ[I)J", "ila"}, {"188 10", "i"}, {"190", "a"}, {"191", "e"}};

    private static boolean fits(char want, char sort) {
        switch (want) {
            case 'a': return sort == 'a' || sort == 'n';
            case 'e': return sort == 'e' || sort == 'n';
            case 'r': return sort == 'a' || sort == 'e' || sort == 'n';
            default: return sort == want;
        }
    }

    private static String usual(String takes) {
        return takes.replace('r', 'a');
    }

    /** "takes what is not of its types (ints: INTS or NULL; throw: ERROR or NULL ..)". */
    private static void takes() {
        for (String[] t : TAKES) {
            String end = t[0].contains("@") ? "; e: 177" : "; 177";
            for (int k = 0; k < t[1].length(); k++) {
                for (char sort : SORTS.toCharArray()) {
                    // a long beside one place is another height: told by itself
                    if ((sort == 'l') != (t[1].charAt(k) == 'l')) {
                        continue;
                    }
                    String sorts = usual(t[1].substring(0, k)) + sort + usual(t[1].substring(k + 1));
                    boolean good = fits(t[1].charAt(k), sort);
                    fault(good ? -1 : BEGUN + countAll(sorts), TYPE, 10, 12, BEGIN + pushAll(sorts) + t[0]
                            + (t[0].startsWith("184") || !t[0].contains("@") ? "; 177" : end), HANDLER);
                }
            }
        }
        // a long where two of one place are wanted, and two where a long is
        fault(BEGUN + 1, TYPE, 10, 12, BEGIN + "32; 96; 177", HANDLER);
        fault(BEGUN + 2, TYPE, 10, 12, BEGIN + "26; 26; 117; 177", HANDLER);
        fault(BEGUN + 2, TYPE, 10, 12, BEGIN + "43; 43; 63; 177", HANDLER);
        fault(BEGUN + 3, TYPE, 10, 12, BEGIN + "26; 32; 26; 97; 177", HANDLER);
        // loads: "a load of a local not so"; 4 the error, 5 null, 6 none, 2 and 3 the halves
        String[] loads = {"21 0", "25 1", "25 4", "25 5", "22 2", "26", "43", "32", "132 0 1", "196 132 0 1"};
        for (String load : loads) {
            fault(-1, TYPE, 10, 12, BEGIN + load + "; 177", HANDLER);
        }
        String[] wrong = {"21 1", "21 2", "21 3", "21 4", "21 5", "21 6", "25 0", "25 2", "25 3", "25 6", "22 0", "22 1",
            "22 3", "22 4", "22 6", "22 9", "132 1 1", "132 2 1", "132 3 1", "132 4 1", "132 5 1", "132 6 1", "27",
            "28", "29", "30", "31", "33", "42", "44", "45", "196 132 6 1"};
        for (String load : wrong) {
            fault(BEGUN, TYPE, 10, 12, BEGIN + load + "; 177", HANDLER);
        }
    }

    private static boolean one(char sort) {
        return sort == 'i' || sort == 'a' || sort == 'e' || sort == 'n';
    }

    /** "pop, dup, swap take INT, INTS, ERROR, NULL (not NONE, nor halves; pop and dup two also a LONG)". */
    private static void copies() {
        for (char sort : SORTS.toCharArray()) {
            int at = BEGUN + pushed(sort);
            fault(one(sort) ? -1 : at, TYPE, 10, 12, BEGIN + push(sort) + "87; 177", HANDLER);
            fault(one(sort) ? -1 : at, TYPE, 10, 12, BEGIN + push(sort) + "89; 177", HANDLER);
            for (char upper : SORTS.toCharArray()) {
                at = BEGUN + pushed(sort) + pushed(upper);
                String code = BEGIN + push(sort) + push(upper);
                boolean good = one(sort) && one(upper);
                fault(good ? -1 : at, TYPE, 10, 12, code + "90; 177", HANDLER);
                fault(good ? -1 : at, TYPE, 10, 12, code + "95; 177", HANDLER);
                boolean two = good || upper == 'l';
                fault(two ? -1 : at, TYPE, 10, 12, code + "88; 177", HANDLER);
                fault(two ? -1 : at, TYPE, 10, 12, code + "92; 177", HANDLER);
            }
        }
        // what was copied has its type, in its place: stored away from the top
        for (char lower : "iaen".toCharArray()) {
            for (char upper : "iaen".toCharArray()) {
                String code = BEGIN + push(lower) + push(upper);
                int at = BEGUN + 2;
                stored(code + "90; ", at + 1, "" + upper + lower + upper);
                stored(code + "95; ", at + 1, "" + upper + lower);
                stored(code + "92; ", at + 1, "" + lower + upper + lower + upper);
                stored(code + "89; ", at + 1, "" + lower + upper + upper);
            }
            CodeFoundry x = fault(-1, TYPE, 10, 12, BEGIN + push(lower) + "32; 92; 55 8; 55 10; "
                    + (lower == 'i' ? "59" : "75") + "; 177", HANDLER);
            locals(x, BEGUN + 6, lower(lower));
            Kit.due("8", x.local(0, 0, BEGUN + 6, 8), LOW);
            Kit.due("11", x.local(0, 0, BEGUN + 6, 11), HIGH);
        }
    }

    /** Stores what stands on the stack into locals from 8 on, the uppermost first. */
    private static void stored(String code, int at, String sorts) {
        StringBuilder text = new StringBuilder(code);
        int n = sorts.length();
        for (int k = 0; k < n; k++) {
            text.append(sorts.charAt(n - 1 - k) == 'i' ? "54 " : "58 ").append(8 + k).append("; ");
        }
        CodeFoundry x = fault(-1, TYPE, 10, 12, text + "177", HANDLER);
        for (int k = 0; k < n; k++) {
            Kit.due(code + k, x.local(0, 0, at + n, 8 + k), lower(sorts.charAt(n - 1 - k)));
        }
    }

    /** "has too few". */
    private static void tooFew() {
        for (String[] t : TAKES) {
            String end = t[0].contains("@e") ? "; e: 177" : "; 177";
            String sorts = usual(t[1]);
            fault(-1, TYPE, 10, 12, BEGIN + pushAll(sorts) + t[0] + end, HANDLER);
            for (int k = 1; k <= sorts.length(); k++) {
                String fewer = sorts.substring(k);
                fault(BEGUN + countAll(fewer), TYPE, 10, 12, BEGIN + pushAll(fewer) + t[0] + end, HANDLER);
            }
            if (sorts.startsWith("l")) {
                // one place of two is too few as well
                String fewer = "i" + sorts.substring(1);
                fault(BEGUN + countAll(fewer), TYPE, 10, 12, BEGIN + pushAll(fewer) + t[0] + end, HANDLER);
            }
        }
        String[][] copies = {{"87", "1"}, {"88", "2"}, {"89", "1"}, {"90", "2"}, {"92", "2"}, {"95", "2"}};
        for (String[] c : copies) {
            int need = Integer.parseInt(c[1]);
            for (int n = 0; n <= need; n++) {
                fault(n < need ? n : -1, "()V", 10, 1, "4; ".repeat(n) + c[0] + "; 177");
            }
        }
        fault(0, "()I", 4, 0, "172");
        fault(0, "()J", 4, 0, "173");
        fault(1, "()J", 4, 0, "4; 173");
        fault(0, "()[I", 4, 0, "176");
        fault(0, "()V", 4, 0, "191");
    }

    /** "leaves more than MOST STACK places". */
    private static void mostStack() {
        for (int most = 0; most <= 24; most++) {
            fault(-1, "()V", most, 0, "4; ".repeat(most) + "177");
            fault(most, "()V", most, 0, "4; ".repeat(most + 1) + "177");
            CodeFoundry x = fault(-1, "()V", most, 0, "1; ".repeat(most) + "0; 177");
            for (int i = 0; i <= most; i++) {
                Kit.due("height " + i, x.height(0, 0, i), i);
            }
            if (most % 2 == 0) {
                fault(-1, "()V", most, 0, "9; ".repeat(most / 2) + "177");
                fault(most / 2, "()V", most, 0, "9; ".repeat(most / 2 + 1) + "177");
            } else {
                fault(most / 2, "()V", most, 0, "9; ".repeat(most / 2 + 1) + "177");
            }
        }
        // of each that leaves more than it takes: one place too few, and just enough
        String[][] rows = {{"", "1", "1"}, {"", "4", "1"}, {"", "9", "2"}, {"", "20 long:7", "2"}, {"", "16 9", "1"},
            {"", "17 999", "1"}, {"", "18 int:9", "1"}, {"", "21 0", "1"}, {"", "22 2", "2"}, {"", "25 1", "1"},
            {"4; ", "133", "2"}, {"4; ", "89", "2"}, {"4; 4; ", "90", "3"}, {"4; 4; ", "92", "4"}, {"9; ", "92", "4"},
            {"", "178 field:i:I", "1"}, {"", "178 field:l:J", "2"}, {"", "178 field:a:[I", "1"},
            {"", "184 call:q:()J", "2"}};
        for (String[] r : rows) {
            int need = Integer.parseInt(r[2]);
            int before = r[0].isEmpty() ? 0 : r[0].split(";").length - 1;
            for (int most = need - 1; most <= need; most++) {
                CodeFoundry x = new CodeFoundry();
                Kit.Klass k = new Kit.Klass().field("i", "I").field("l", "J").field("a", "[I")
                        .method("m", "(I[IJ)V", most, 6, r[0] + r[1] + "; 177").method("q", "()J", 2, 0, "9; 173");
                Kit.due("file()", Kit.file(x, k.bytes()), 0);
                Kit.due(r[0] + r[1] + " with " + most, x.verify(0), most < need ? 1 : 0);
                Kit.due("at()", x.at(), most < need ? before : -1);
            }
        }
        // what an instruction takes is gone before it gives: no place more is needed in between
        fault(-1, "()V", 4, 0, "9; 9; 97; 88; 177");
        fault(-1, "(I)V", 4, 1, "26; 9; 1; 184 call:p:(IJ[I)J; 177");
        fault(-1, "()V", 2, 0, "4; 4; 95; 177");
    }

    /** "(a catch that has it wants one)". */
    private static void catchesWantOne() {
        for (int most = 0; most <= 1; most++) {
            fault(most == 0 ? 1 : -1, "()V", most, 0, "0; a: 0; b: 177; h: 177", "a b h 0");
            fault(most == 0 ? 0 : -1, "()V", most, 0, "a: 0; b: 177; h: 177", "a b h SizeError");
            fault(most == 0 ? 1 : -1, "()V", most, 0, "0; a: 177; b: 0; h: 177", "a b h 0");
            fault(-1, "()V", most, 0, "177; a: 0; b: 177; h: 177", "a b h 0");
        }
        // it goes on nowhere then, not to the next one either
        fault(2, "()V", 0, 0, "167 @a; x: 4; a: 0; b: 167 @x; h: 177", "a b h 0");
    }

    /** "has another height than another way to it". */
    private static void otherHeights() {
        fault(3, "(I)V", 4, 1, "26; 153 @a; 4; a: 177");
        fault(-1, "(I)V", 4, 1, "26; 153 @a; 4; 87; a: 177");
        fault(0, "(I)V", 4, 1, "a: 4; 167 @a");
        fault(-1, "(I)V", 4, 1, "a: 4; 87; 167 @a");
        // AT has one place: come to by another way with none, with one, with two
        fault(2, "(I)V", 4, 1, "a: 0; b: 167 @h; h: 177", "a b h 0");
        fault(-1, "(I)V", 4, 1, "a: 0; b: 1; h: 177", "a b h 0");
        fault(3, "(I)V", 4, 1, "a: 0; b: 1; 1; h: 177", "a b h 0");
        // a switch to one place from two heights
        fault(5, "(I)V", 4, 1, "26; 171 @a 1 @b; a: 4; 0; 0; b: 177");
        // both heights spread: all that is behind has both, the first of them is told
        fault(3, "(I)V", 9, 1, "26; 153 @a; 4; a: 0; 0; 4; 177");
        fault(1, "(I)V", 9, 1, "167 @b; c: 0; 177; b: 26; 153 @d; 4; d: 0; 167 @c");
    }

    /** "or the last one goes on". */
    private static void theLastOne() {
        String[] ends = {"0", "1", "4", "9", "16 5", "26", "4; 87", "132 0 1", "26; 153 @z", "43; 198 @z",
            "43; 43; 165 @z", "4; 188 10", "178 field:i:I", "4; 179 field:i:I", "26; 9; 43; 184 call:p:(IJ[I)J"};
        for (String end : ends) {
            int n = end.split(";").length;
            fault(n, "(I[I)V", 9, 2, "z: 0; " + end);
            // not come to, it may stand there
            fault(-1, "(I[I)V", 9, 2, "z: 177; " + end);
        }
        for (String end : new String[] {"167 @z", "200 @z", "26; 170 @z 0 @z", "26; 171 @z", "1; 191", "177"}) {
            fault(-1, "(I[I)V", 9, 2, "z: 0; " + end);
        }
        fault(-1, "()I", 9, 2, "4; 172");
        // a jump there goes on nowhere: its target is not come to
        fault(4, "(I)V", 9, 2, "167 @b; z: 87; 177; b: 26; 153 @z");
        // and so does what a catch has
        fault(3, "(I)V", 9, 2, "167 @a; h: 88; 177; a: 0; e:", "a e h 0");
    }

    /** "The first method, and in it the first instruction, that has one is told". */
    private static void firstFault() {
        for (int mask = 0; mask < 8; mask++) {
            CodeFoundry x = new CodeFoundry();
            Kit.Klass k = new Kit.Klass();
            int first = -1;
            for (int m = 0; m < 3; m++) {
                boolean bad = (mask >> m & 1) != 0;
                k.method("m" + m, "()V", 2, 0, bad ? "0; ".repeat(m + 1) + "87; 87; 177" : "0; 177");
                first = bad && first < 0 ? m : first;
            }
            Kit.due("file()", Kit.file(x, k.bytes()), 0);
            Kit.due("verify(0)", x.verify(0), first < 0 ? 0 : 1);
            Kit.due("method()", x.method(), first);
            Kit.due("at()", x.at(), first < 0 ? -1 : first + 1);
            Kit.due("stage(0)", x.stage(0), first < 0);
        }
        // a fault of types before one of height, and the other way round
        fault(1, "()V", 4, 0, "9; 87; 87; 87; 177");
        fault(0, "()V", 4, 0, "87; 9; 89; 177");
        // the last of 1200
        CodeFoundry x = new CodeFoundry();
        Kit.due("file()", Kit.file(x, new Kit.Klass().method("m", "()V", 1, 0, "0; ".repeat(1200)).bytes()), 0);
        Kit.due("verify(0)", x.verify(0), 1);
        Kit.due("at()", x.at(), 1199);
        Kit.Klass many = new Kit.Klass();
        for (int m = 0; m < 24; m++) {
            many.method("m" + m, "()V", 1, 0, m == 23 ? "87; 177" : "177");
        }
        x = new CodeFoundry();
        Kit.due("file()", Kit.file(x, many.bytes()), 0);
        Kit.due("verify(0)", x.verify(0), 1);
        Kit.due("method()", x.method(), 23);
    }

    /** "Heights are sought by themselves: all that can come, each spreading by itself; where one is too few ..". */
    private static void heightsByThemselves() {
        // at 'a' heights 0 and 1 come: with 0 the pop has too few and goes on nowhere, with 1 it goes on to 'c'
        fault(1, "(I)V", 4, 1, "167 @b; a: 87; c: 177; b: 26; 153 @a; 4; 167 @a");
        // 'c' is come to with one height only, and is no fault, though it stands before
        fault(3, "(I)V", 4, 1, "167 @b; c: 0; 177; a: 87; 167 @c; b: 26; 153 @a; 4; 167 @a");
        // too many goes on nowhere: 'c' would take two
        fault(4, "()V", 1, 0, "167 @b; c: 88; 177; b: 4; 4; 167 @c");
        // types do not go on from a fault of height
        fault(4, "(I)V", 2, 2, "167 @b; c: 26; 87; 177; b: 87; 9; 63; 167 @c");
        // nor to it: a store of a long in a place of two heights does not come behind it
        fault(7, "(I)V", 6, 2, "167 @b; c: 26; 87; 177; b: 26; 153 @f; 4; f: 0; 9; 63; 177");
        // heights do not look at types: a long taken as two ints has a fault of types alone
        fault(1, "()V", 4, 0, "9; 96; 87; 177");
    }

    /** "results have the types that are told, whatever was taken .. NONE is copied". */
    private static void resultsAsTold() {
        // the results of faulty instructions are used by one that stands before them
        String[][] rows = {{"1; 116", "59"}, {"1; 4; 96", "59"}, {"4; 4; 4; 4; 97", "63"}, {"1; 133", "63"},
            {"4; 4; 136", "59"}, {"4; 190", "59"}, {"4; 4; 46", "59"}, {"1; 188 10", "75"}, {"1; 145", "59"},
            {"4; 4; 4; 4; 148", "59"}, {"4; 4; 4; 4; 184 call:p:(IJ[I)J", "63"}, {"21 1", "59"}, {"22 0", "63"}};
        for (String[] r : rows) {
            int at = 3 + r[0].split(";").length - 1;
            fault(at, "(I[I)V", 8, 4, "167 @b; a: " + r[1] + "; 177; b: " + r[0] + "; 167 @a");
        }
        // what is copied from another type is NONE: the pop that stands before has a fault as well
        String[] copies = {"9; 89", "25 0", "9; 4; 95", "4; 9; 90", "9; 4; 92", "4; 9; 89"};
        for (String c : copies) {
            fault(1, "(I[I)V", 9, 4, "167 @b; a: 88; 177; b: 4; " + c + "; 167 @a");
        }
        // a faulty pop leaves what stands below
        fault(1, "(I[I)V", 9, 4, "167 @b; a: 92; 177; b: 9; 87; 4; 167 @a");
        // stores: of an int whatever was taken, of a reference NONE if it was none
        fault(4, "(I[I)V", 9, 4, "167 @b; a: 28; 177; b: 1; 61; 167 @a");
        fault(1, "(I[I)V", 9, 4, "167 @b; a: 44; 177; b: 4; 77; 167 @a");
    }

    /** "a return not as the method's type". */
    private static void returns() {
        String[] types = {"()I", "()J", "()[I", "()V"};
        int[] returns = {172, 173, 176, 177};
        for (int t = 0; t < 4; t++) {
            for (int r = 0; r < 4; r++) {
                for (char sort : SORTS.toCharArray()) {
                    String type = types[t].replace("()", "(I[IJ)");
                    boolean good = t == r && (t == 3 || fits("ila".charAt(t), sort));
                    // too few is a fault as well, at the same place
                    fault(good ? -1 : BEGUN + pushed(sort), type, 4, 8, BEGIN + push(sort) + returns[r], HANDLER);
                }
            }
        }
        // what stands below does not matter
        fault(-1, "(I[IJ)I", 9, 8, BEGIN + "32; 43; 26; 172", HANDLER);
        fault(-1, "(I[IJ)V", 9, 8, BEGIN + "32; 43; 26; 177", HANDLER);
    }

    /** Promises 9 to 13: what is not there, not checked, or had a fault. */
    private static void answers() {
        CodeFoundry x = new CodeFoundry();
        Kit.due("method() of none", x.method(), -1);
        Kit.due("at() of none", x.at(), -1);
        for (int f : new int[] {-1, 0, 1, 12, Integer.MIN_VALUE, Integer.MAX_VALUE}) {
            Kit.due("verify(" + f + ")", x.verify(f), -1);
            Kit.due("height", x.height(f, 0, 0), -1);
            Kit.due("local", x.local(f, 0, 0, 0), -1);
        }
        Kit.due("file()", Kit.file(x, klass("(I)V", 2, 2, "26; 87; 177; 0").bytes()), 0);
        Kit.due("not checked", x.height(0, 0, 0), -1);
        Kit.due("not checked", x.local(0, 0, 0, 0), -1);
        Kit.due("verify(0)", x.verify(0), 0);
        int[] ends = {-1, 4, Integer.MIN_VALUE, Integer.MAX_VALUE};
        for (int i : ends) {
            Kit.due("instruction " + i, x.height(0, 0, i), -1);
            Kit.due("instruction " + i, x.local(0, 0, i, 0), -1);
        }
        for (int m : new int[] {-1, 2, Integer.MIN_VALUE, Integer.MAX_VALUE}) {
            Kit.due("method " + m, x.height(0, m, 0), -1);
            Kit.due("method " + m, x.local(0, m, 0, 0), -1);
        }
        Kit.due("the last one, not come to", x.height(0, 0, 3), -1);
        Kit.due("the last one, not come to", x.local(0, 0, 3, 0), -1);
        Kit.due("the last that is come to", x.height(0, 0, 2), 0);
        Kit.due("the last method", x.height(0, 1, 1), 2);
        // a file with a fault tells nothing, of its sound methods either; checking again answers the same
        Kit.due("file()", Kit.file(x, klass("(I)V", 2, 2, "0; 87; 177").bytes()), 1);
        for (int again = 0; again < 2; again++) {
            Kit.due("verify(1)", x.verify(1), 1);
            Kit.due("method()", x.method(), 0);
            Kit.due("at()", x.at(), 1);
            Kit.due("a faulty file", x.height(1, 0, 0), -1);
            Kit.due("its sound method", x.height(1, 1, 0), -1);
            Kit.due("its sound method", x.local(1, 1, 0, 0), -1);
            Kit.due("verify(0)", x.verify(0), 0);
            Kit.due("method()", x.method(), -1);
            Kit.due("at()", x.at(), -1);
            Kit.due("verify(1)", x.verify(1), 1);
            Kit.due("verify(2)", x.verify(2), -1);
            Kit.due("method() of none", x.method(), -1);
            Kit.due("at() of none", x.at(), -1);
        }
        // other calls leave the latest fault as it is
        Kit.due("verify(1)", x.verify(1), 1);
        x.write(0);
        x.improve(0, 2047);
        x.count(0);
        x.stage(1);
        x.file();
        Kit.due("method()", x.method(), 0);
        Kit.due("at()", x.at(), 1);
        // a file without methods has no fault
        CodeFoundry y = new CodeFoundry();
        Kit.due("file()", Kit.file(y, new Kit.Klass().bytes()), 0);
        Kit.due("verify(0)", y.verify(0), 0);
        Kit.due("height", y.height(0, 0, 0), -1);
    }
}
