import java.io.IOException;
import java.lang.reflect.Method;
import java.lang.reflect.Modifier;
import java.nio.file.Files;
import java.nio.file.Path;
import java.util.HashSet;
import java.util.List;
import java.util.Set;
import java.util.stream.Stream;

/** What README.md says: its lines of code are run here, as they stand there, and its refusals are asked for. */
public final class UseTest {
    private static final Path TESTS = Path.of("src/test/java");

    /** sum(n) = n + .. + 1, beginning with 2 * 3 - 6. */
    private static final Kit.Klass SUM = new Kit.Klass().field("total", "J")
            .method("sum", "(I)I", 2, 2, "5; 6; 104; 16 6; 100; 60; loop: 26; 158 @end; 27; 26; 96; 60; 132 0 -1; "
                    + "167 @loop; end: 27; 133; 179 field:total:J; 27; 172");

    public static void main(String[] args) throws IOException {
        use(SUM.bytes());
        refusals();
        readmeIsRun();
        nothingIsLeftOut();
        Kit.finish("UseTest");
    }

    private static void use(byte[] bytes) {
        CodeFoundry foundry = new CodeFoundry();
        for (int i = 0; i < bytes.length; i += 20) {
            int[] v = new int[5];
            for (int k = 0; k < 20; k++) {
                v[k / 4] = v[k / 4] << 8 | (i + k < bytes.length ? bytes[i + k] & 255 : 0);
            }
            foundry.feed(v[0], v[1], v[2], v[3], v[4]);
        }
        foundry.end(bytes.length);
        int f = foundry.file();
        int methods = foundry.size(f, 1);
        int instructions = foundry.length(f, 0);
        Kit.due("the file", f, 0);
        Kit.due("its methods", methods, 1);
        Kit.due("its instructions", instructions, 19);

        int fault = foundry.verify(f);
        int height = foundry.height(f, 0, 6);
        int type = foundry.local(f, 0, 6, 1);
        Kit.due("its fault", fault, 0);
        Kit.due("the height at the loop", height, 0);
        Kit.due("the sum's type at the loop", type, 1);

        byte[] copy = new byte[foundry.write(f)];
        for (int i = 0; i < copy.length; i++) {
            copy[i] = (byte) foundry.byteAt(i);
        }
        Kit.due("the copy is no longer", copy.length <= bytes.length, true);
        Kit.sound("the copy", copy);

        foundry.stage(f);
        foundry.argument(4);
        int outcome = foundry.run(0, 1000);
        long result = foundry.result();
        int steps = foundry.steps();
        long field = foundry.field(0);
        Kit.due("the outcome", outcome, 0);
        Kit.due("the result", result, 10);
        Kit.due("the steps", steps, 6 + 4 * 8 + 2 + 5);
        Kit.due("the field", field, 10);

        int blocks = foundry.blocks(f, 0);
        int dominator = foundry.block(f, 0, 2, 2);
        boolean isBack = foundry.edge(f, 0, 2, 1);
        Kit.due("the blocks", blocks, 4);
        Kit.due("the dominator of the loop's body", dominator, 1);
        Kit.due("an edge back to the loop's head", isBack, true);

        int better = foundry.improve(f, 2047);
        int folded = foundry.applied(5);
        Kit.due("the better file", better, 1);
        Kit.due("how often numbers were worked out", folded, 2);
        Kit.due("its instructions", foundry.length(better, 0), 15);

        int counted = foundry.count(f);
        foundry.verify(counted);
        foundry.stage(counted);
        foundry.argument(4);
        foundry.run(0, 1000);
        long turns = foundry.field(2);
        Kit.due("the file with counters", counted, 2);
        Kit.due("how often the first block was begun", foundry.field(1), 1);
        Kit.due("how often the loop's head was begun", turns, 5);
        Kit.due("how often the loop's body was begun", foundry.field(3), 4);
        Kit.due("strays", foundry.strays(), 0);
    }

    /** What the page says that calls answer when they are refused. */
    private static void refusals() {
        CodeFoundry x = new CodeFoundry();
        Kit.due("end beyond the tray", x.end(1), false);
        Kit.due("an empty tray", x.file(), -1);
        Kit.due("its rule", x.rule(), 2);
        Kit.due("its place", x.place(), 0);
        Kit.due("size without a file", x.size(0, 0), -1);
        Kit.due("length without a file", x.length(0, 0), -1);
        Kit.due("verify without a file", x.verify(0), -1);
        Kit.due("method without a fault", x.method(), -1);
        Kit.due("at without a fault", x.at(), -1);
        Kit.due("blocks without a file", x.blocks(0, 0), -1);
        Kit.due("block without a file", x.block(0, 0, 0, 0), -1);
        Kit.due("edge without a file", x.edge(0, 0, 0, 0), false);
        Kit.file(x, SUM.bytes());
        Kit.due("height before checking", x.height(0, 0, 0), -1);
        Kit.due("local before checking", x.local(0, 0, 0, 0), -1);
        Kit.due("write before checking", x.write(0), -1);
        Kit.due("byteAt before writing", x.byteAt(0), -1);
        Kit.due("stage before checking", x.stage(0), false);
        Kit.due("improve before checking", x.improve(0, 0), -1);
        Kit.due("count before checking", x.count(0), -1);
        Kit.due("run without a stage", x.run(0, 9), -1);
        Kit.due("error without a run", x.error(), -1);
        Kit.due("field without a stage", x.field(0), 0);
        Kit.due("element without a stage", x.element(1, 0), 0);
        Kit.due("arrayLength without a stage", x.arrayLength(1), -1);
        x.verify(0);
        x.stage(0);
        Kit.due("run without arguments", x.run(0, 9), -2);
        x.argument(1);
        Kit.due("run with too much fuel", x.run(0, 50001), -3);
        Kit.due("improve by a rule too many", x.improve(0, 2048), -1);
        Kit.due("applied of no rule", x.applied(12), 0);
    }

    /** Each line of code under "Use" stands in this file too, but for what it says behind two strokes. */
    private static void readmeIsRun() throws IOException {
        Set<String> here = new HashSet<>();
        for (String line : Files.readAllLines(TESTS.resolve("UseTest.java"))) {
            here.add(line.trim());
        }
        int lines = 0;
        for (String line : Files.readAllLines(Path.of("README.md"))) {
            if (line.equals("## Tests")) {
                break;
            }
            if (line.startsWith("    ")) {
                lines++;
                String code = line.split("//")[0].trim();
                Kit.due("is run: " + code, here.contains(code), true);
            }
        }
        Kit.due("lines of code in README.md", lines > 20, true);
    }

    /** README.md names each public method and each test. */
    private static void nothingIsLeftOut() throws IOException {
        String page = Files.readString(Path.of("README.md"));
        for (Method m : CodeFoundry.class.getDeclaredMethods()) {
            if (Modifier.isPublic(m.getModifiers())) {
                Kit.due("README.md names " + m.getName(), page.contains("`" + m.getName() + "`"), true);
            }
        }
        List<Path> tests;
        try (Stream<Path> all = Files.list(TESTS)) {
            tests = all.toList();
        }
        for (Path test : tests) {
            String name = test.getFileName().toString().replace(".java", "");
            Kit.due("README.md names " + name, page.contains("`" + name + "`"), true);
        }
    }
}
