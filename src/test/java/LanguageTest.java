import java.io.DataInputStream;
import java.io.IOException;
import java.lang.reflect.Constructor;
import java.lang.reflect.Field;
import java.lang.reflect.Method;
import java.lang.reflect.Modifier;
import java.nio.file.Files;
import java.nio.file.Path;
import java.util.ArrayList;
import java.util.HashMap;
import java.util.HashSet;
import java.util.List;
import java.util.Map;
import java.util.Set;
import java.util.TreeSet;

/** What of ../shared/LANGUAGE.md can be read off the class: its face, its classes, its words, its calls. */
public final class LanguageTest {
    private static final String[] FACE = {"int feed(int,int,int,int,int)", "boolean end(int)", "int file()",
        "int rule()", "int place()", "int size(int,int)", "int length(int,int)", "int verify(int)", "int method()",
        "int at()", "int height(int,int,int)", "int local(int,int,int,int)", "int write(int)", "int byteAt(int)",
        "boolean stage(int)", "int argument(long)", "int run(int,int)", "long result()", "int error()", "int steps()",
        "long field(int)", "int element(int,int)", "int arrayLength(int)", "int blocks(int,int)",
        "int block(int,int,int,int)", "boolean edge(int,int,int,int)", "int improve(int,int)", "int applied(int)",
        "int count(int)", "int strays()"};

    public static void main(String[] args) throws IOException {
        face();
        classesInside();
        words();
        lengthsOfMethods();
        depthOfCalls();
        Kit.finish("LanguageTest");
    }

    private static String signature(Method m) {
        StringBuilder s = new StringBuilder(m.getReturnType() + " " + m.getName() + "(");
        for (int i = 0; i < m.getParameterCount(); i++) {
            s.append(i > 0 ? "," : "").append(m.getParameterTypes()[i]);
        }
        return s + ")";
    }

    /** Rule 1: the document's face and no other member that can be seen; no private method with a public one's name. */
    private static void face() {
        int modifiers = CodeFoundry.class.getModifiers();
        Kit.due("public and final", Modifier.isPublic(modifiers) && Modifier.isFinal(modifiers), true);
        Set<String> seen = new TreeSet<>();
        Set<String> names = new HashSet<>();
        for (Method m : CodeFoundry.class.getDeclaredMethods()) {
            if (Modifier.isPublic(m.getModifiers())) {
                seen.add(signature(m));
                names.add(m.getName());
            } else {
                Kit.due(m + " is private", Modifier.isPrivate(m.getModifiers()), true);
            }
        }
        Set<String> want = new TreeSet<>(List.of(FACE));
        Kit.due("the face " + seen, seen.equals(want), true);
        for (Constructor<?> c : CodeFoundry.class.getDeclaredConstructors()) {
            Kit.due(c + " is the public one", Modifier.isPublic(c.getModifiers()) && c.getParameterCount() == 0, true);
        }
        for (Field f : CodeFoundry.class.getDeclaredFields()) {
            Kit.due(f + " is private", Modifier.isPrivate(f.getModifiers()), true);
        }
        for (Class<?> c : all()) {
            for (Method m : c.getDeclaredMethods()) {
                if (!m.isSynthetic() && !Modifier.isPublic(m.getModifiers())) {
                    Kit.due(m + " has a name of its own", names.contains(m.getName()), false);
                }
            }
        }
    }

    private static List<Class<?>> all() {
        List<Class<?>> all = new ArrayList<>();
        all.add(CodeFoundry.class);
        all.addAll(List.of(CodeFoundry.class.getDeclaredClasses()));
        return all;
    }

    /** Rules 2, 5 and 11: static classes, final static fields, at most seven parameters, some twenty fields. */
    private static void classesInside() {
        Kit.due("some twelve classes", all().size() <= 13, true);
        for (Class<?> c : all()) {
            if (c != CodeFoundry.class) {
                Kit.due(c + " is static", Modifier.isStatic(c.getModifiers()), true);
                Kit.due(c + " is not public", Modifier.isPublic(c.getModifiers()), false);
                Kit.due(c + " has no classes inside", c.getDeclaredClasses().length, 0);
            }
            int fields = 0;
            for (Field f : c.getDeclaredFields()) {
                if (Modifier.isStatic(f.getModifiers())) {
                    Kit.due(f + " is final", Modifier.isFinal(f.getModifiers()), true);
                } else {
                    fields++;
                }
            }
            Kit.due(c + " has " + fields + " fields", fields <= 21, true);
            for (Method m : c.getDeclaredMethods()) {
                Kit.due(m + " takes at most seven", m.getParameterCount() <= 7, true);
            }
        }
    }

    private static List<String> source() throws IOException {
        return Files.readAllLines(Path.of("src/main/java/CodeFoundry.java"));
    }

    /** Rules 4, 6, 10 and 13: words that may not stand in the file, comments left out. */
    private static void words() throws IOException {
        boolean comment = false;
        for (String line : source()) {
            String s = line.trim();
            boolean starts = s.startsWith("/*");
            comment = comment || starts;
            if (!comment) {
                String code = s.contains("//") ? s.substring(0, s.indexOf("//")) : s;
                for (String word : new String[] {"throw", "try", "catch", "synchronized", "assert", "static {", "->", "::",
                    "HashMap", "String.valueOf", "String.format", "hashCode", "toString", "Exact(", "Math.random",
                    "System.out", "System.nano", "System.current", "System.exit", "Thread", "\" +", "+ \"", "float",
                    "double", "Object"}) {
                    boolean whole = word.matches("\\w+") ? code.matches(".*\\b" + word + "\\b.*") : code.contains(word);
                    Kit.due(word + " in: " + code, whole, false);
                }
                if (code.startsWith("import")) {
                    Kit.due(code, code.equals("import java.util.Arrays;"), true);
                }
                Kit.due("no package", code.startsWith("package"), false);
                for (char c : code.toCharArray()) {
                    if (c < 32 || c > 126) {
                        Kit.due("sign " + (int) c, true, false);
                    }
                }
            }
            if (s.endsWith("*/")) {
                comment = false;
            }
        }
    }

    /** Rule 11: methods of some sixty lines. */
    private static void lengthsOfMethods() throws IOException {
        List<String> lines = source();
        for (int i = 0; i < lines.size(); i++) {
            String s = lines.get(i);
            String trimmed = s.trim();
            // a method's head stands by itself: a word or two, its name, and what it takes
            if (trimmed.matches("(\\w+(\\[\\])? )*\\w+\\(.*\\) \\{") && !trimmed.matches("(if|for|while|switch) .*")) {
                String indent = s.substring(0, s.indexOf(trimmed));
                int end = i;
                while (end < lines.size() && !lines.get(end).equals(indent + "}")) {
                    end++;
                }
                Kit.due(trimmed + " has " + (end - i + 1) + " lines", end - i + 1 <= 60, true);
            }
        }
    }

    /** Rules 8 and 11: no recursion here, and calls go at most eight deep, the public one the first. */
    private static void depthOfCalls() throws IOException {
        Map<String, Set<String>> calls = new HashMap<>();
        for (Class<?> c : all()) {
            String name = c.getName();
            try (DataInputStream in = new DataInputStream(c.getResourceAsStream(name + ".class"))) {
                new ClassFile(in, calls);
            }
        }
        int deepest = 0;
        for (String m : calls.keySet()) {
            int depth = depth(m, calls, new HashSet<>());
            Kit.due(m + " goes " + depth + " deep", depth <= 8, true);
            deepest = Math.max(deepest, depth);
        }
        Kit.due("calls were found", deepest > 3, true);
    }

    private static int depth(String m, Map<String, Set<String>> calls, Set<String> open) {
        if (!open.add(m)) {
            Kit.due(m + " calls itself", true, false);
            return 100;
        }
        int deepest = 0;
        for (String callee : calls.getOrDefault(m, Set.of())) {
            deepest = Math.max(deepest, depth(callee, calls, open));
        }
        open.remove(m);
        return 1 + deepest;
    }

    /** Reads which methods of CodeFoundry and its classes each method of a class calls. */
    private static final class ClassFile {
        private final Object[] pool;
        private final Map<String, Set<String>> calls;

        ClassFile(DataInputStream in, Map<String, Set<String>> calls) throws IOException {
            this.calls = calls;
            in.readLong();
            pool = new Object[in.readUnsignedShort()];
            for (int k = 1; k < pool.length; k++) {
                k += readEntry(in, k);
            }
            in.readUnsignedShort();
            String owner = name(in.readUnsignedShort());
            in.readUnsignedShort();
            in.skipBytes(2 * in.readUnsignedShort());
            readMembers(in, owner, false);
            readMembers(in, owner, true);
        }

        private int readEntry(DataInputStream in, int k) throws IOException {
            int tag = in.readUnsignedByte();
            switch (tag) {
                case 1: pool[k] = in.readUTF(); return 0;
                case 5: case 6: in.readLong(); return 1;
                case 7: case 8: case 16: case 19: case 20: pool[k] = new int[] {in.readUnsignedShort()}; return 0;
                case 15: in.readUnsignedByte(); in.readUnsignedShort(); return 0;
                case 3: case 4: in.readInt(); return 0;
                default: pool[k] = new int[] {in.readUnsignedShort(), in.readUnsignedShort()}; return 0;
            }
        }

        private String name(int k) {
            return (String) pool[((int[]) pool[k])[0]];
        }

        private String member(int k) {
            int[] ref = (int[]) pool[k];
            int[] pair = (int[]) pool[ref[1]];
            return name(ref[0]) + "." + pool[pair[0]] + pool[pair[1]];
        }

        private void readMembers(DataInputStream in, String owner, boolean methods) throws IOException {
            int n = in.readUnsignedShort();
            for (int i = 0; i < n; i++) {
                in.readUnsignedShort();
                String key = owner + "." + pool[in.readUnsignedShort()] + pool[in.readUnsignedShort()];
                int attributes = in.readUnsignedShort();
                for (int a = 0; a < attributes; a++) {
                    boolean code = pool[in.readUnsignedShort()].equals("Code");
                    byte[] b = new byte[in.readInt()];
                    in.readFully(b);
                    if (methods && code) {
                        readCode(key, b);
                    }
                }
            }
        }

        private static int u1(byte[] b, int at) {
            return b[at] & 255;
        }

        private static int u4(byte[] b, int at) {
            return u1(b, at) << 24 | u1(b, at + 1) << 16 | u1(b, at + 2) << 8 | u1(b, at + 3);
        }

        private void readCode(String key, byte[] b) {
            Set<String> called = calls.computeIfAbsent(key, k -> new TreeSet<>());
            int end = 8 + u4(b, 4);
            for (int at = 8; at < end; at += length(b, at)) {
                int op = u1(b, at);
                if (op >= 182 && op <= 185) {
                    String callee = member(u1(b, at + 1) << 8 | u1(b, at + 2));
                    if (callee.startsWith("CodeFoundry")) {
                        called.add(callee);
                    }
                }
            }
        }

        private static int length(byte[] b, int at) {
            int op = u1(b, at);
            int q = 8 + (at - 8 + 4 & ~3);
            if (op == 170) {
                return q + 16 + 4 * (u4(b, q + 8) - u4(b, q + 4)) - at;
            }
            if (op == 171) {
                return q + 8 + 8 * u4(b, q + 4) - at;
            }
            if (op == 196) {
                return u1(b, at + 1) == 132 ? 6 : 4;
            }
            if (op == 16 || op == 18 || op >= 21 && op <= 25 || op >= 54 && op <= 58 || op == 169 || op == 188) {
                return 2;
            }
            if (op == 17 || op == 19 || op == 20 || op == 132 || op >= 153 && op <= 168 || op >= 178 && op <= 184
                    || op == 187 || op == 189 || op == 192 || op == 193 || op == 198 || op == 199) {
                return 3;
            }
            return op == 197 ? 4 : op == 185 || op == 186 || op == 200 || op == 201 ? 5 : 1;
        }
    }
}
