import java.io.ByteArrayOutputStream;
import java.util.ArrayList;
import java.util.Arrays;
import java.util.LinkedHashMap;
import java.util.List;
import java.util.Map;

/** What the tests share: a count of wrong answers, and a small assembler for class files. */
final class Kit {
    private static int wrong;
    private static int asked;

    private Kit() {
    }

    static void due(String what, long got, long want) {
        asked++;
        if (got != want) {
            wrong++;
            System.out.println(what + " answered " + got + ", due is " + want);
        }
    }

    static void due(String what, boolean got, boolean want) {
        due(what, got ? 1 : 0, want ? 1 : 0);
    }

    static void finish(String name) {
        System.out.println(name + ": " + asked + " answers, " + wrong + " not as due");
        if (wrong != 0) {
            System.exit(1);
        }
    }

    /** Feeds bytes into the tray, and ends it behind them. */
    static void tray(CodeFoundry x, byte[] b) {
        for (int i = 0; i < b.length; i += 20) {
            int[] v = new int[5];
            for (int k = 0; k < 20; k++) {
                v[k / 4] = v[k / 4] << 8 | (i + k < b.length ? b[i + k] & 255 : 0);
            }
            x.feed(v[0], v[1], v[2], v[3], v[4]);
        }
        x.end(b.length);
    }

    static int file(CodeFoundry x, byte[] b) {
        tray(x, b);
        return x.file();
    }

    /** A new foundry with one file, checked. */
    static CodeFoundry checked(Klass k) {
        CodeFoundry x = new CodeFoundry();
        due("file()", file(x, k.bytes()), 0);
        due("verify(0)", x.verify(0), 0);
        return x;
    }

    static CodeFoundry staged(Klass k) {
        CodeFoundry x = checked(k);
        due("stage(0)", x.stage(0), true);
        return x;
    }

    static byte[] written(CodeFoundry x, int f) {
        byte[] b = new byte[x.write(f)];
        for (int i = 0; i < b.length; i++) {
            b[i] = (byte) x.byteAt(i);
        }
        return b;
    }

    /** Bytes as a file: the rule that it breaks and its place, or 0 and -1. */
    static void broken(String what, byte[] b, int rule, int place) {
        CodeFoundry x = new CodeFoundry();
        due(what + ": file()", file(x, b), rule == 0 ? 0 : -1);
        due(what + ": rule()", x.rule(), rule);
        due(what + ": place()", x.place(), place);
    }

    static void sound(String what, byte[] b) {
        broken(what, b, 0, -1);
    }

    static byte[] insert(byte[] b, int place, int... values) {
        byte[] c = Arrays.copyOf(b, b.length + values.length);
        System.arraycopy(b, place, c, place + values.length, b.length - place);
        return with(c, place, values);
    }

    static int u2(byte[] b, int at) {
        return (b[at] & 255) << 8 | b[at + 1] & 255;
    }

    /** Where the pool of a file ends. */
    static int poolEnd(byte[] b) {
        int at = 10;
        int n = u2(b, 8);
        for (int k = 1; k < n; k++) {
            switch (b[at]) {
                case 1: at += 3 + u2(b, at + 1); break;
                case 7: at += 3; break;
                case 5: at += 9; k++; break;
                default: at += 5; break;
            }
        }
        return at;
    }

    /** All that stands in the attribute Code of method m of a file as it is written. */
    static byte[] codeOf(byte[] b, int m) {
        int at = poolEnd(b) + 8;
        at += 2 + 8 * u2(b, at) + 2;
        for (int k = 0; k < m; k++) {
            at += 14 + u2(b, at + 12);
        }
        return Arrays.copyOfRange(b, at + 14, at + 14 + u2(b, at + 12));
    }

    static byte[] with(byte[] b, int place, int... values) {
        byte[] c = b.clone();
        for (int i = 0; i < values.length; i++) {
            c[place + i] = (byte) values[i];
        }
        return c;
    }

    /** Numbers of one, two and four bytes, and names, one behind the other. */
    static final class Raw {
        private final ByteArrayOutputStream out = new ByteArrayOutputStream();

        int at() {
            return out.size();
        }

        Raw u1(int... values) {
            return put(1, values);
        }

        Raw u2(int... values) {
            return put(2, values);
        }

        Raw u4(int... values) {
            return put(4, values);
        }

        Raw name(String s) {
            u1(1).u2(s.length());
            for (char c : s.toCharArray()) {
                u1(c);
            }
            return this;
        }

        private Raw put(int n, int[] values) {
            for (int v : values) {
                Kit.put(out, n, v);
            }
            return this;
        }

        byte[] bytes() {
            return out.toByteArray();
        }
    }

    /** A class file that grows; marks tell where its parts stand. */
    static final class Klass {
        final Map<String, Integer> marks = new LinkedHashMap<>();
        private final List<byte[]> entries = new ArrayList<>();
        private final Map<String, Integer> numbers = new LinkedHashMap<>();
        private int poolCount = 1;
        private final String name;
        private final List<String[]> fields = new ArrayList<>();
        private final List<Object[]> methods = new ArrayList<>();
        private final int own;
        private final int above;

        Klass(String name, String above) {
            this.name = name;
            own = classEntry(name);
            this.above = classEntry(above);
        }

        Klass() {
            this("Main", "Top");
        }

        int raw(String key, int... bytes) {
            Integer old = numbers.get(key);
            if (old != null) {
                return old;
            }
            byte[] b = new byte[bytes.length];
            for (int i = 0; i < b.length; i++) {
                b[i] = (byte) bytes[i];
            }
            int k = poolCount;
            numbers.put(key, k);
            entries.add(b);
            poolCount += b[0] == 5 ? 2 : 1;
            return k;
        }

        int nameEntry(String s) {
            int[] b = new int[3 + s.length()];
            b[0] = 1;
            b[1] = s.length() >> 8;
            b[2] = s.length();
            for (int i = 0; i < s.length(); i++) {
                b[3 + i] = s.charAt(i);
            }
            return raw("name " + s, b);
        }

        int classEntry(String s) {
            int n = nameEntry(s);
            return raw("class " + s, 7, n >> 8, n);
        }

        int intEntry(int v) {
            return raw("int " + v, 3, v >> 24, v >> 16, v >> 8, v);
        }

        int longEntry(long v) {
            return raw("long " + v, 5, (int) (v >> 56), (int) (v >> 48), (int) (v >> 40), (int) (v >> 32),
                    (int) (v >> 24), (int) (v >> 16), (int) (v >> 8), (int) v);
        }

        int pairEntry(String n, String type) {
            int a = nameEntry(n);
            int b = nameEntry(type);
            return raw("pair " + n + " " + type, 12, a >> 8, a, b >> 8, b);
        }

        int memberEntry(int tag, String owner, String n, String type) {
            int c = classEntry(owner);
            int p = pairEntry(n, type);
            return raw("member " + tag + " " + owner + " " + n + " " + type, tag, c >> 8, c, p >> 8, p);
        }

        Klass field(String n, String type) {
            fields.add(new String[] {n, type});
            nameEntry(n);
            nameEntry(type);
            return this;
        }

        /** Adds a method; each handler is "from to at name", labels and the name of an error or 0. */
        Klass method(String n, String type, int stack, int locals, String code, String... handlers) {
            Code c = new Code(this, code);
            int codeName = nameEntry("Code");
            int nn = nameEntry(n);
            int tt = nameEntry(type);
            methods.add(new Object[] {nn, tt, codeName, stack, locals, c, handlers});
            for (String h : handlers) {
                String e = h.split(" ")[3];
                if (!e.equals("0")) {
                    classEntry(e);
                }
            }
            return this;
        }

        int mark(String s) {
            return marks.get(s);
        }

        byte[] bytes() {
            ByteArrayOutputStream out = new ByteArrayOutputStream();
            put(out, 4, 0xcafebabe);
            put(out, 4, 49);
            put(out, 2, poolCount);
            int k = 1;
            for (byte[] e : entries) {
                marks.put("entry" + k, out.size());
                out.writeBytes(e);
                k += e[0] == 5 ? 2 : 1;
            }
            marks.put("flags", out.size());
            put(out, 2, 33);
            put(out, 2, own);
            put(out, 2, above);
            put(out, 2, 0);
            marks.put("fields", out.size());
            put(out, 2, fields.size());
            for (int i = 0; i < fields.size(); i++) {
                marks.put("field" + i, out.size());
                put(out, 2, 9);
                put(out, 2, nameEntry(fields.get(i)[0]));
                put(out, 2, nameEntry(fields.get(i)[1]));
                put(out, 2, 0);
            }
            marks.put("methods", out.size());
            put(out, 2, methods.size());
            for (int i = 0; i < methods.size(); i++) {
                putMethod(out, i, methods.get(i));
            }
            marks.put("attributes", out.size());
            put(out, 2, 0);
            return out.toByteArray();
        }

        private void putMethod(ByteArrayOutputStream out, int i, Object[] m) {
            Code c = (Code) m[5];
            String[] handlers = (String[]) m[6];
            marks.put("method" + i, out.size());
            put(out, 2, 9);
            put(out, 2, (Integer) m[0]);
            put(out, 2, (Integer) m[1]);
            put(out, 2, 1);
            put(out, 2, (Integer) m[2]);
            put(out, 4, 12 + c.bytes.length + 8 * handlers.length);
            marks.put("stack" + i, out.size());
            put(out, 2, (Integer) m[3]);
            put(out, 2, (Integer) m[4]);
            put(out, 4, c.bytes.length);
            marks.put("code" + i, out.size());
            out.writeBytes(c.bytes);
            marks.put("catches" + i, out.size());
            put(out, 2, handlers.length);
            for (String h : handlers) {
                String[] t = h.split(" ");
                put(out, 2, c.labels.get(t[0]));
                put(out, 2, c.labels.get(t[1]));
                put(out, 2, c.labels.get(t[2]));
                put(out, 2, t[3].equals("0") ? 0 : classEntry(t[3]));
            }
            put(out, 2, 0);
            marks.put("behind" + i, out.size());
        }
    }

    private static void put(ByteArrayOutputStream out, int n, int v) {
        for (int k = n - 1; k >= 0; k--) {
            out.write(v >> 8 * k);
        }
    }

    /**
     * Code from a text: instructions with ';' between, each its number and operands; 'name:' before one is a label,
     * '@name' an offset to it, 'int:', 'long:', 'field:name:type', 'call:name:type' entries of the pool. Switches:
     * "170 @default low @a @b", "171 @default 1 @a 5 @b".
     */
    private static final class Code {
        final Map<String, Integer> labels = new LinkedHashMap<>();
        byte[] bytes = new byte[0];
        private final Klass klass;

        Code(Klass klass, String text) {
            this.klass = klass;
            String[] lines = text.split(";");
            for (int pass = 0; pass < 2; pass++) {
                ByteArrayOutputStream out = new ByteArrayOutputStream();
                for (String line : lines) {
                    one(out, line.trim());
                }
                bytes = out.toByteArray();
            }
        }

        private void one(ByteArrayOutputStream out, String text) {
            String line = text;
            while (line.matches("[a-zA-Z]\\w*:(\\s.*)?")) {
                labels.put(line.substring(0, line.indexOf(':')), out.size());
                line = line.substring(line.indexOf(':') + 1).trim();
            }
            if (line.isEmpty()) {
                return;
            }
            String[] t = line.split("\\s+");
            int at = out.size();
            int op = Integer.parseInt(t[0]);
            out.write(op);
            if ((op == 170 || op == 171) && t.length > 1) {
                putSwitch(out, t, at, op);
                return;
            }
            for (int k = 1; k < t.length; k++) {
                putOperand(out, t, k, at, op);
            }
        }

        private void putOperand(ByteArrayOutputStream out, String[] t, int k, int at, int op) {
            String s = t[k];
            if (s.startsWith("@")) {
                put(out, op == 200 ? 4 : 2, offset(s, at));
            } else if (s.contains(":")) {
                put(out, op == 18 ? 1 : 2, entry(s));
            } else {
                boolean two = op == 17 || op == 19 || op == 20 || op == 178 || op == 179 || op == 184
                        || op >= 153 && op <= 167 || op == 196 && k > 1;
                put(out, op == 200 ? 4 : two ? 2 : 1, Integer.parseInt(s));
            }
        }

        private int entry(String s) {
            String[] p = s.split(":");
            switch (p[0]) {
                case "int": return klass.intEntry(Integer.parseInt(p[1]));
                case "long": return klass.longEntry(Long.parseLong(p[1]));
                case "field": return klass.memberEntry(9, klass.name, p[1], p[2]);
                case "call": return klass.memberEntry(10, klass.name, p[1], p[2]);
                case "otherField": return klass.memberEntry(9, "Other", p[1], p[2]);
                default: throw new IllegalArgumentException(s);
            }
        }

        private int offset(String s, int at) {
            Integer target = labels.get(s.substring(1));
            return target == null ? 0 : target - at;
        }

        private void putSwitch(ByteArrayOutputStream out, String[] t, int at, int op) {
            while (out.size() % 4 != 0) {
                out.write(77);
            }
            put(out, 4, offset(t[1], at));
            if (op == 170) {
                int low = Integer.parseInt(t[2]);
                put(out, 4, low);
                put(out, 4, low + t.length - 4);
                for (int k = 3; k < t.length; k++) {
                    put(out, 4, offset(t[k], at));
                }
                return;
            }
            put(out, 4, (t.length - 2) / 2);
            for (int k = 2; k + 1 < t.length; k += 2) {
                put(out, 4, Integer.parseInt(t[k]));
                put(out, 4, offset(t[k + 1], at));
            }
        }
    }
}
