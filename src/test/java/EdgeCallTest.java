/** The edges of promises 1 to 8: what the tray takes, what is too much, and what refused calls leave behind. */
public final class EdgeCallTest {
    public static void main(String[] args) {
        newObject();
        twentyBytes();
        trayOf16000();
        allOf65536();
        end();
        emptyThen();
        ruleAndPlace();
        twelveFiles();
        sizes();
        objectsByThemselves();
        strays();
        Kit.finish("EdgeCallTest");
    }

    private static int feed(CodeFoundry x) {
        return x.feed(1, 2, 3, 4, 5);
    }

    /** Promise 1: "No bytes, no files, nothing on the stage". */
    private static void newObject() {
        CodeFoundry x = new CodeFoundry();
        Kit.due("no bytes", x.end(1), false);
        Kit.due("no bytes", x.end(0), true);
        Kit.due("no files", x.size(0, 0), -1);
        Kit.due("nothing on the stage", x.run(0, 0), -1);
        Kit.due("rule()", x.rule(), 0);
        Kit.due("place()", x.place(), -1);
        Kit.due("method()", x.method(), -1);
        Kit.due("at()", x.at(), -1);
        Kit.due("result()", x.result(), 0);
        Kit.due("error()", x.error(), -1);
        Kit.due("steps()", x.steps(), 0);
        Kit.due("strays()", x.strays(), 0);
        Kit.due("an empty tray is no file", x.file(), -1);
        Kit.due("rule()", x.rule(), 2);
        Kit.due("place()", x.place(), 0);
        Kit.due("the first argument", x.argument(0), 1);
        Kit.due("the first bytes", feed(x), 20);
    }

    /** Promise 2: "Feeds twenty bytes, the highest of a first, then b, c, d, e". */
    private static void twentyBytes() {
        byte[] b = new Kit.Klass("A", "B").bytes();
        // 40 bytes: 10 of head, 4 + 3 + 4 + 3 of pool, 14 behind it, and two too many
        Kit.due("the file's length", b.length, 38);
        for (int i = 0; i < 38; i++) {
            // each byte in its place: a wrong one is told, or makes another file
            CodeFoundry x = new CodeFoundry();
            Kit.due("file()", Kit.file(x, b), 0);
            byte[] other = Kit.with(b, i, b[i] ^ 128);
            int rule = i < 8 ? 1 : 0;
            CodeFoundry y = new CodeFoundry();
            int f = Kit.file(y, other);
            Kit.due("byte " + i + " is there", f == -1, true);
            if (rule == 1) {
                Kit.due("place()", y.place(), i);
            }
        }
        CodeFoundry x = new CodeFoundry();
        Kit.due("negative numbers are bytes", x.feed(0xcafebabe, 0x00000031, 0xffff0000, -1, -1), 20);
        Kit.due("file()", x.file(), -1);
        Kit.due("rule()", x.rule(), 5);
        Kit.due("place()", x.place(), 8);
    }

    /** "how many are in the tray; -1 if there would be more than 16000". */
    private static void trayOf16000() {
        CodeFoundry x = new CodeFoundry();
        for (int n = 20; n <= 16000; n += 20) {
            Kit.due("feed", feed(x), n);
        }
        Kit.due("16020", feed(x), -1);
        Kit.due("once more", feed(x), -1);
        Kit.due("end(16001)", x.end(16001), false);
        Kit.due("what is there stays", x.end(16000), true);
        Kit.due("end(15981)", x.end(15981), true);
        Kit.due("16001 would be there", feed(x), -1);
        Kit.due("end(15980)", x.end(15980), true);
        Kit.due("16000 again", feed(x), 16000);
        Kit.due("file()", x.file(), -1);
        Kit.due("empty", feed(x), 20);
        // a file of 16000 bytes, filled up by an attribute
        byte[] b = new Kit.Klass("A", "B").bytes();
        int more = 16000 - b.length - 6;
        byte[] large = Kit.insert(Kit.with(b, b.length - 1, 1), b.length, 0, 1, 0, 0, more >> 8, more);
        large = java.util.Arrays.copyOf(large, 16000);
        CodeFoundry y = new CodeFoundry();
        Kit.due("file()", Kit.file(y, large), 0);
        Kit.due("rule()", y.rule(), 0);
    }

    /** "or more than 65536 in all": 3276 times twenty are 65520. */
    private static void allOf65536() {
        CodeFoundry x = new CodeFoundry();
        int times = 0;
        for (int i = 0; i < 4; i++) {
            for (int n = 20; n <= 16000; n += 20) {
                Kit.due("feed", feed(x), n);
                times++;
            }
            Kit.due("what is refused does not count", feed(x), -1);
            Kit.due("file()", x.file(), -1);
        }
        for (int n = 20; times < 3276; n += 20) {
            Kit.due("feed", feed(x), n);
            times++;
        }
        Kit.due("65540 in all", feed(x), -1);
        Kit.due("the tray stays", x.end(1520), true);
        Kit.due("less in the tray is not less in all", x.end(0), true);
        Kit.due("65540 in all", feed(x), -1);
        Kit.due("file()", x.file(), -1);
        Kit.due("rule()", x.rule(), 2);
        Kit.due("place()", x.place(), 0);
        Kit.due("65540 in all", feed(x), -1);
        // bytes that were cut off have been fed
        CodeFoundry y = new CodeFoundry();
        for (int i = 0; i < 3276; i++) {
            Kit.due("feed", feed(y), 20);
            Kit.due("end(0)", y.end(0), true);
        }
        Kit.due("65540 in all", feed(y), -1);
    }

    /** Promise 3: "Only the first n bytes of the tray count; false if n is below 0 or more than it has". */
    private static void end() {
        CodeFoundry x = new CodeFoundry();
        for (int n : new int[] {-1, 1, Integer.MIN_VALUE, Integer.MAX_VALUE}) {
            Kit.due("end(" + n + ")", x.end(n), false);
        }
        Kit.due("feed", feed(x), 20);
        Kit.due("feed", feed(x), 40);
        for (int n : new int[] {-1, 41, Integer.MIN_VALUE, Integer.MAX_VALUE}) {
            Kit.due("end(" + n + ")", x.end(n), false);
        }
        Kit.due("all stays", x.end(40), true);
        Kit.due("end(39)", x.end(39), true);
        Kit.due("end(40)", x.end(40), false);
        Kit.due("feed", feed(x), 59);
        Kit.due("end(20)", x.end(20), true);
        Kit.due("feed", feed(x), 40);
        Kit.due("end(0)", x.end(0), true);
        Kit.due("end(0)", x.end(0), true);
        Kit.due("end(1)", x.end(1), false);
        Kit.due("feed", feed(x), 20);
        // bytes cut off do not come back
        CodeFoundry y = new CodeFoundry();
        y.feed(0xcafebabe, 49, 0x00010000, 0, 0);
        Kit.due("end(4)", y.end(4), true);
        y.feed(48, 0, 0, 0, 0);
        Kit.due("file()", y.file(), -1);
        Kit.due("rule()", y.rule(), 1);
        Kit.due("place()", y.place(), 7);
    }

    /** Promise 4: "The tray is read as a file, and is empty then", whatever was found. */
    private static void emptyThen() {
        byte[] b = new Kit.Klass("A", "B").bytes();
        CodeFoundry x = new CodeFoundry();
        Kit.due("file()", Kit.file(x, b), 0);
        Kit.due("empty", x.end(1), false);
        Kit.due("file()", x.file(), -1);
        Kit.due("rule()", x.rule(), 2);
        Kit.due("place()", x.place(), 0);
        Kit.due("file()", Kit.file(x, Kit.with(b, 0, 0)), -1);
        Kit.due("empty", x.end(1), false);
        Kit.due("file()", Kit.file(x, b), 1);
        Kit.due("rule()", x.rule(), 0);
        Kit.due("place()", x.place(), -1);
    }

    /** Promises 5 and 6: "The rule that the latest file() found broken; 0 if it found none, or there was none". */
    private static void ruleAndPlace() {
        byte[] b = new Kit.Klass("A", "B").field("x", "I").method("m", "()V", 0, 0, "177").bytes();
        CodeFoundry x = new CodeFoundry();
        for (int i = 0; i < 2; i++) {
            Kit.due("file()", Kit.file(x, Kit.with(b, 3, 0)), -1);
            Kit.due("rule()", x.rule(), 1);
            Kit.due("place()", x.place(), 3);
            // other calls leave them
            feed(x);
            x.end(5);
            x.verify(0);
            x.improve(0, 2047);
            x.count(0);
            x.write(0);
            x.run(0, 1);
            Kit.due("rule()", x.rule(), 1);
            Kit.due("place()", x.place(), 3);
            x.end(0);
            Kit.due("file()", Kit.file(x, b), i == 0 ? 0 : 5);
            Kit.due("rule()", x.rule(), 0);
            Kit.due("place()", x.place(), -1);
            x.verify(0);
            x.improve(0, 2047);
            x.count(0);
            Kit.due("rule()", x.rule(), 0);
            Kit.due("place()", x.place(), -1);
        }
    }

    /** "-2, and all stays (rule() and place() too), if there are 12 files"; "numbered from 0". */
    private static void twelveFiles() {
        byte[] b = new Kit.Klass("A", "B").method("m", "()V", 0, 0, "177").bytes();
        CodeFoundry x = new CodeFoundry();
        for (int f = 0; f < 12; f++) {
            Kit.due("file()", Kit.file(x, b), f);
            // a broken one has no number
            if (f < 11) {
                Kit.due("file()", Kit.file(x, Kit.with(b, 5, 9)), -1);
            }
        }
        Kit.tray(x, Kit.with(b, 6, 9));
        Kit.due("the thirteenth, and broken", x.file(), -2);
        Kit.due("rule()", x.rule(), 0);
        Kit.due("place()", x.place(), -1);
        Kit.due("the tray stays", x.end(b.length), true);
        Kit.due("and grows", feed(x), b.length + 20);
        Kit.due("the thirteenth", x.file(), -2);
        Kit.due("the twelfth is there", x.length(11, 0), 1);
        Kit.due("the thirteenth is not", x.length(12, 0), -1);
        Kit.due("verify(11)", x.verify(11), 0);
        Kit.due("verify(12)", x.verify(12), -1);
        Kit.due("stage(11)", x.stage(11), true);
        Kit.due("run", x.run(0, 1), 0);
        Kit.due("improve", x.improve(11, 0), -2);
        Kit.due("count", x.count(11), -2);
        // the broken rule of the latest file() before stays as well
        CodeFoundry y = new CodeFoundry();
        for (int f = 0; f < 11; f++) {
            Kit.due("file()", Kit.file(y, b), f);
        }
        Kit.due("verify(0)", y.verify(0), 0);
        Kit.due("file()", Kit.file(y, Kit.with(b, 6, 9)), -1);
        Kit.due("improve", y.improve(0, 0), 11);
        Kit.due("file()", Kit.file(y, b), -2);
        Kit.due("rule()", y.rule(), 1);
        Kit.due("place()", y.place(), 6);
    }

    /** Promises 7 and 8: sizes and lengths of the empty and the full, and of what is not there. */
    private static void sizes() {
        CodeFoundry x = new CodeFoundry();
        Kit.due("file()", Kit.file(x, new Kit.Klass("A", "A").bytes()), 0);
        int[] empty = {0, 0, 3, 0};
        for (int what = 0; what < 4; what++) {
            Kit.due("size(0, " + what + ")", x.size(0, what), empty[what]);
        }
        for (int v : new int[] {-1, 4, 5, Integer.MIN_VALUE, Integer.MAX_VALUE}) {
            Kit.due("size(0, " + v + ")", x.size(0, v), -1);
            Kit.due("size(" + v + ", 0)", x.size(v, 0), -1);
            Kit.due("length(0, " + v + ")", x.length(0, v), -1);
            Kit.due("length(" + v + ", 0)", x.length(v, 0), -1);
        }
        Kit.due("length(0, 0)", x.length(0, 0), -1);
        Kit.Klass k = new Kit.Klass();
        for (int m = 0; m < 24; m++) {
            k.field("f" + m, "I").method("m" + m, "()V", 0, 0, "0; ".repeat(m) + "177");
        }
        k.longEntry(9);
        Kit.due("file()", Kit.file(x, k.bytes()), 1);
        Kit.due("fields", x.size(1, 0), 24);
        Kit.due("methods", x.size(1, 1), 24);
        Kit.due("pool", x.size(1, 2), 1 + 4 + 24 + 24 + 3 + 2);
        Kit.due("instructions", x.size(1, 3), 24 * 25 / 2);
        for (int m = 0; m < 24; m++) {
            Kit.due("length(1, " + m + ")", x.length(1, m), m + 1);
        }
        Kit.due("length(1, 24)", x.length(1, 24), -1);
        Kit.due("length(1, -1)", x.length(1, -1), -1);
        Kit.due("length(2, 0)", x.length(2, 0), -1);
        // a long at the end of the pool: the U2 as it was read
        byte[] b = new Kit.Raw().u1(202, 254, 186, 190).u2(0, 49, 4).name("A").u1(7).u2(1).u1(5).u4(0, 0)
                .u2(33, 2, 2, 0, 0, 0, 0).bytes();
        Kit.due("file()", Kit.file(x, b), 2);
        Kit.due("size(2, 2)", x.size(2, 2), 4);
    }

    /** Objects share nothing. */
    private static void objectsByThemselves() {
        byte[] b = new Kit.Klass().field("i", "I").method("m", "(I)I", 2, 1, "26; 179 field:i:I; 4; 188 10; 190; 172")
                .bytes();
        CodeFoundry x = new CodeFoundry();
        CodeFoundry y = new CodeFoundry();
        Kit.due("file()", Kit.file(x, b), 0);
        Kit.due("no file", y.verify(0), -1);
        Kit.due("verify(0)", x.verify(0), 0);
        Kit.due("stage(0)", x.stage(0), true);
        x.argument(7);
        Kit.due("run", x.run(0, 10), 0);
        Kit.due("file()", Kit.file(y, b), 0);
        Kit.due("not checked", y.stage(0), false);
        Kit.due("verify(0)", y.verify(0), 0);
        Kit.due("stage(0)", y.stage(0), true);
        Kit.due("field(0)", y.field(0), 0);
        Kit.due("arrayLength(1)", y.arrayLength(1), -1);
        Kit.due("steps()", y.steps(), 0);
        Kit.due("field(0)", x.field(0), 7);
        Kit.due("arrayLength(1)", x.arrayLength(1), 1);
        Kit.due("an argument", y.argument(1), 1);
        Kit.due("an argument of its own", x.argument(1), 1);
    }

    /** Promise 31: "In a right system never". */
    private static void strays() {
        CodeFoundry x = Kit.staged(new Kit.Klass().field("l", "J").method("m", "(IJ[I)J", 8, 8,
                "a: 31; 92; 97; 178 field:l:J; 97; 179 field:l:J; 45; 26; 46; 87; b: 178 field:l:J; 173; h: 58 7; "
                        + "26; 153 @z; 25 7; 191; z: 10; 173", "a b h 0")
                .method("n", "(I)[I", 1, 1, "26; 188 10; 176"));
        x.argument(3);
        Kit.due("run", x.run(1, 10), 0);
        for (int i = -1; i <= 3; i++) {
            for (int a = 0; a <= 1; a++) {
                x.argument(i);
                x.argument(5);
                x.argument(a);
                x.run(0, 40);
                Kit.due("strays()", x.strays(), 0);
            }
        }
    }
}
