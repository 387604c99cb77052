import java.util.Arrays;

/**
 * A foundry for class files of static methods: it reads them by rules of layout, checks their types, writes them
 * anew, runs them by steps, draws their graphs, makes them better and puts counters into them.
 */
public final class CodeFoundry {
    private static final int MOST_FILES = 12;
    private static final int MOST_BEGUN = 16;
    private static final int MOST_TRAY = 16000;
    private static final int MOST_FED = 65536;
    private static final int FEED = 20;
    private static final int MOST_POOL = 500;
    private static final int MOST_NAME = 100;
    private static final int MOST_MEMBERS = 24;
    private static final int MOST_PARAMETERS = 8;
    private static final int MOST_PLACES = 24;
    private static final int MOST_CODE = 1200;
    private static final int MOST_CATCHES = 16;
    private static final int MOST_SWITCH = 200;
    private static final int MOST_FUEL = 50000;
    private static final int MOST_FRAMES = 60;
    private static final int MOST_ARRAYS = 400;
    private static final int MOST_ELEMENTS = 20000;
    private static final int MOST_ROUNDS = 50;
    private static final int LAST_RULE = 11;
    private static final int ALL_RULES = 2047;
    /** What a counter adds: four instructions, of which the stack grows by four places. */
    private static final int COUNTER = 4;
    /** Far above what any loop here can need: each round of such a loop changes something that changes seldom. */
    private static final int MANY = 1000000;

    private static final int FILE_FLAGS = 33;
    private static final int MEMBER_FLAGS = 9;
    private static final int[] MAGIC = {202, 254, 186, 190, 0, 0, 0, 49};

    private static final int TAG_NAME = 1;
    private static final int TAG_INT = 3;
    private static final int TAG_LONG = 5;
    private static final int TAG_CLASS = 7;
    private static final int TAG_FIELD = 9;
    private static final int TAG_METHOD = 10;
    private static final int TAG_PAIR = 12;

    /** Types of places, as local() tells them. */
    private static final int NONE = 0;
    private static final int INT = 1;
    private static final int LOW = 2;
    private static final int HIGH = 3;
    private static final int INTS = 4;
    private static final int ERROR = 5;
    private static final int NULL = 6;

    /** Kinds of values that an instruction takes or gives; a row of them is a number with a hex digit for each. */
    private static final int KIND_INT = 1;
    private static final int KIND_LONG = 2;
    private static final int KIND_INTS = 3;
    private static final int KIND_REFERENCE = 4;
    private static final int KIND_ERROR = 5;
    private static final int KIND_ONE_PLACE = 6;
    private static final int KIND_NULL = 7;

    private static final int DIVIDE_ERROR = 0;
    private static final int NULL_ERROR = 1;
    private static final int INDEX_ERROR = 2;
    private static final int SIZE_ERROR = 3;
    private static final int ANY_ERROR = -1;

    private static final int RETURNED = 0;
    private static final int FAILED = 1;
    private static final int NO_FUEL = 2;
    private static final int TOO_DEEP = 3;
    private static final int TOO_MUCH = 4;

    /** Instructions as a Row has them: one for each sort, whatever form the file had. */
    private static final int NOP = 0;
    private static final int PUSH_NULL = 1;
    private static final int PUSH_INT = 17;
    private static final int PUSH_LONG = 20;
    private static final int LOAD_INT = 21;
    private static final int LOAD_LONG = 22;
    private static final int LOAD_REFERENCE = 25;
    private static final int GET_ELEMENT = 46;
    private static final int STORE_INT = 54;
    private static final int STORE_LONG = 55;
    private static final int STORE_REFERENCE = 58;
    private static final int PUT_ELEMENT = 79;
    private static final int POP = 87;
    private static final int POP_TWO = 88;
    private static final int DUP = 89;
    private static final int DUP_UNDER = 90;
    private static final int DUP_TWO = 92;
    private static final int SWAP = 95;
    private static final int ADD_INT = 96;
    private static final int ADD_LONG = 97;
    private static final int GROW = 132;
    private static final int COMPARE = 148;
    private static final int IF_ZERO = 153;
    private static final int IF_EQUAL = 159;
    private static final int IF_SAME = 165;
    private static final int IF_NOT_SAME = 166;
    private static final int GOTO = 167;
    private static final int TABLE = 170;
    private static final int LOOKUP = 171;
    private static final int RETURN_INT = 172;
    private static final int RETURN = 177;
    private static final int GET_FIELD = 178;
    private static final int PUT_FIELD = 179;
    private static final int CALL = 184;
    private static final int NEW_INTS = 188;
    private static final int LENGTH = 190;
    private static final int THROW = 191;
    private static final int IF_NULL = 198;
    private static final int IF_NOT_NULL = 199;

    /** Instructions that only files have. */
    private static final int RAW_PUSH_LONG = 9;
    private static final int RAW_PUSH_BYTE = 16;
    private static final int RAW_POOL_BYTE = 18;
    private static final int RAW_POOL_INT = 19;
    private static final int RAW_WIDE = 196;
    private static final int RAW_GOTO_FAR = 200;

    private final Bytes tray = new Bytes();
    private final Bytes written = new Bytes();
    private final Bytes draft = new Bytes();
    private final Unit[] units = new Unit[MOST_FILES];
    private final CodeReader reader = new CodeReader();
    private final Checker checker = new Checker();
    private final Writer writer = new Writer();
    private final Machine machine = new Machine();
    private final Graph graph = new Graph();
    private final Smith smith = new Smith();
    private int fed;
    private int unitCount;
    private int begun;
    private int brokenRule;
    private int brokenPlace = -1;
    private int faultMethod = -1;
    private int faultAt = -1;
    /** The file in 'written', so that writing it again costs nothing; -1 none. */
    private int writtenFile = -1;

    public CodeFoundry() {
    }

    public int feed(int a, int b, int c, int d, int e) {
        if (tray.count + FEED > MOST_TRAY || fed + FEED > MOST_FED) {
            return -1;
        }
        tray.put4(a);
        tray.put4(b);
        tray.put4(c);
        tray.put4(d);
        tray.put4(e);
        fed += FEED;
        return tray.count;
    }

    public boolean end(int n) {
        if (n < 0 || n > tray.count) {
            return false;
        }
        tray.count = n;
        return true;
    }

    public int file() {
        if (unitCount >= MOST_FILES) {
            return -2;
        }
        Unit unit = reader.unitOf(tray);
        tray.count = 0;
        brokenRule = reader.file.brokenRule;
        brokenPlace = reader.file.brokenPlace;
        return keep(unit, -1);
    }

    public int rule() {
        return brokenRule;
    }

    public int place() {
        return brokenPlace;
    }

    public int size(int f, int what) {
        Unit unit = unitAt(f);
        if (unit == null) {
            return -1;
        }
        switch (what) {
            case 0: return unit.fieldCount;
            case 1: return unit.methodCount;
            case 2: return unit.poolCount;
            case 3: return unit.instructions;
            default: return -1;
        }
    }

    public int length(int f, int m) {
        Row row = rowAt(f, m);
        return row == null ? -1 : row.count;
    }

    public int verify(int f) {
        faultMethod = -1;
        faultAt = -1;
        Unit unit = unitAt(f);
        if (unit == null) {
            return -1;
        }
        for (int m = 0; !unit.checked && unit.faultMethod < 0 && m < unit.methodCount; m++) {
            unit.faultAt = checker.firstFault(unit, unit.rowAt(m));
            unit.faultMethod = unit.faultAt < 0 ? -1 : m;
        }
        unit.checked = true;
        faultMethod = unit.faultMethod;
        faultAt = unit.faultAt;
        return faultMethod < 0 ? 0 : 1;
    }

    public int method() {
        return faultMethod;
    }

    public int at() {
        return faultAt;
    }

    public int height(int f, int m, int i) {
        Row row = soundUnitAt(f) == null ? null : rowAt(f, m);
        return row == null ? -1 : row.heightAt(i);
    }

    public int local(int f, int m, int i, int k) {
        Row row = soundUnitAt(f) == null ? null : rowAt(f, m);
        if (row == null || row.heightAt(i) < 0 || k < 0 || k >= MOST_PLACES) {
            return -1;
        }
        return row.localAt(i, k);
    }

    public int write(int f) {
        Unit unit = soundUnitAt(f);
        if (unit == null) {
            return -1;
        }
        if (f != writtenFile) {
            writer.begin(unit, 0);
            for (int m = 0; m < unit.methodCount; m++) {
                writer.addMethod(unit.rowAt(m));
            }
            writer.finish(written);
            writtenFile = f;
        }
        return written.count;
    }

    public int byteAt(int i) {
        return i < 0 || i >= written.count ? -1 : written.get(i);
    }

    public boolean stage(int f) {
        Unit unit = soundUnitAt(f);
        if (unit == null) {
            return false;
        }
        machine.setStage(unit);
        return true;
    }

    public int argument(long v) {
        return machine.addArgument(v);
    }

    public int run(int m, int fuel) {
        int answer = machine.refusal(m, fuel);
        if (answer == 0) {
            answer = machine.play(m, fuel);
        }
        machine.argumentCount = 0;
        return answer;
    }

    public long result() {
        return machine.lastResult;
    }

    public int error() {
        return machine.lastError;
    }

    public int steps() {
        return machine.lastSteps;
    }

    public long field(int k) {
        return machine.fieldAt(k);
    }

    public int element(int a, int i) {
        return machine.elementAt(a, i);
    }

    public int arrayLength(int a) {
        return machine.lengthOf(a);
    }

    public int blocks(int f, int m) {
        Row row = rowAt(f, m);
        if (row == null) {
            return -1;
        }
        graph.draw(row);
        return graph.count;
    }

    public int block(int f, int m, int b, int what) {
        Row row = rowAt(f, m);
        if (row == null) {
            return -1;
        }
        graph.draw(row);
        return graph.tell(b, what);
    }

    public boolean edge(int f, int m, int a, int b) {
        Row row = rowAt(f, m);
        if (row == null) {
            return false;
        }
        graph.draw(row);
        return graph.hasEdge(a, b);
    }

    public int improve(int f, int rules) {
        smith.forgetApplied();
        Unit unit = soundUnitAt(f);
        if (unit == null || rules < 0 || rules > ALL_RULES) {
            return -1;
        }
        if (unitCount >= MOST_FILES || begun >= MOST_BEGUN) {
            return -2;
        }
        begun++;
        writer.begin(unit, 0);
        for (int m = 0; m < unit.methodCount; m++) {
            smith.makeBetter(unit.rowAt(m), rules);
            writer.addMethod(smith.row);
        }
        if (!writer.fits()) {
            return -3;
        }
        writer.finish(draft);
        return keep(reader.unitOf(draft), -3);
    }

    public int applied(int r) {
        return smith.appliedAt(r);
    }

    public int count(int f) {
        Unit unit = soundUnitAt(f);
        if (unit == null) {
            return -1;
        }
        if (unitCount >= MOST_FILES || begun >= MOST_BEGUN) {
            return -2;
        }
        begun++;
        int counters = countersOf(unit);
        if (unit.fieldCount + counters > MOST_MEMBERS) {
            return -3;
        }
        writer.begin(unit, counters);
        int next = unit.fieldCount;
        for (int m = 0; m < unit.methodCount; m++) {
            Row row = unit.rowAt(m);
            graph.draw(row);
            smith.putCounters(row, graph, next);
            next += graph.reachedCount();
            writer.addMethod(smith.row);
        }
        if (!writer.fits()) {
            return -3;
        }
        writer.finish(draft);
        return keep(reader.unitOf(draft), -3);
    }

    public int strays() {
        return machine.strays;
    }

    private Unit unitAt(int f) {
        return f < 0 || f >= unitCount ? null : units[f];
    }

    private Unit soundUnitAt(int f) {
        Unit unit = unitAt(f);
        return unit == null || !unit.checked || unit.faultMethod >= 0 ? null : unit;
    }

    private Row rowAt(int f, int m) {
        Unit unit = unitAt(f);
        return unit == null ? null : unit.rowAt(m);
    }

    private int keep(Unit unit, int refusal) {
        if (unit == null || unitCount >= MOST_FILES) {
            return refusal;
        }
        units[unitCount] = unit;
        unitCount++;
        return unitCount - 1;
    }

    private int countersOf(Unit unit) {
        int counters = 0;
        for (int m = 0; m < unit.methodCount; m++) {
            graph.draw(unit.rowAt(m));
            counters += graph.reachedCount();
        }
        return counters;
    }

    /** A row of bytes that grows as it is filled. */
    private static final class Bytes {
        byte[] data = new byte[64];
        int count;

        void put(int b) {
            if (count >= data.length) {
                data = Arrays.copyOf(data, 2 * data.length);
            }
            data[count] = (byte) b;
            count++;
        }

        void put2(int v) {
            put(v >> 8);
            put(v);
        }

        void put4(int v) {
            put2(v >> 16);
            put2(v);
        }

        void putAll(Bytes other) {
            int room = data.length;
            for (int k = 0; room < count + other.count && k < 31; k++) {
                room *= 2;
            }
            if (room > data.length) {
                data = Arrays.copyOf(data, room);
            }
            System.arraycopy(other.data, 0, data, count, other.count);
            count += other.count;
        }

        int get(int i) {
            return i < 0 || i >= count ? 0 : data[i] & 255;
        }
    }

    /** What the instructions of a Row do, each by itself; twenty to a line in the tables. */
    private static final class Ops {
        private static final int[] LENGTH_OF = {
            1, 1, 1, 1, 1, 1, 1, 1, 1, 1, 1, 0, 0, 0, 0, 0, 2, 3, 2, 3,
            3, 2, 2, 0, 0, 2, 1, 1, 1, 1, 1, 1, 1, 1, 0, 0, 0, 0, 0, 0,
            0, 0, 1, 1, 1, 1, 1, 0, 0, 0, 0, 0, 0, 0, 2, 2, 0, 0, 2, 1,
            1, 1, 1, 1, 1, 1, 1, 0, 0, 0, 0, 0, 0, 0, 0, 1, 1, 1, 1, 1,
            0, 0, 0, 0, 0, 0, 0, 1, 1, 1, 1, 0, 1, 0, 0, 1, 1, 1, 0, 0,
            1, 1, 0, 0, 1, 1, 0, 0, 1, 1, 0, 0, 1, 1, 0, 0, 1, 1, 0, 0,
            1, 1, 1, 1, 1, 1, 1, 1, 1, 1, 1, 1, 3, 1, 0, 0, 1, 0, 0, 0,
            0, 0, 0, 0, 0, 1, 1, 1, 1, 0, 0, 0, 0, 3, 3, 3, 3, 3, 3, 3,
            3, 3, 3, 3, 3, 3, 3, 3, 0, 0, 0, 0, 1, 1, 0, 0, 1, 1, 3, 3,
            0, 0, 0, 0, 3, 0, 0, 0, 0, 0, 1, 1, 0, 0, 0, 0, 0, 0, 3, 3,
            5, 0
        };

        private static final int[] TAKES_OF = {
            0, 0, 0, 0, 0, 0, 0, 0, 0, 0, 0, 0, 0, 0, 0, 0, 0, 0, 0, 0,
            0, 0, 0, 0, 0, 0, 0, 0, 0, 0, 0, 0, 0, 0, 0, 0, 0, 0, 0, 0,
            0, 0, 0, 0, 0, 0, 0x31, 0, 0, 0, 0, 0, 0, 0, 1, 2, 0, 0, 4, 0,
            0, 0, 0, 0, 0, 0, 0, 0, 0, 0, 0, 0, 0, 0, 0, 0, 0, 0, 0, 0x311,
            0, 0, 0, 0, 0, 0, 0, 6, 0x66, 6, 0x66, 0, 0x66, 0, 0, 0x66, 0x11, 0x22, 0, 0,
            0x11, 0x22, 0, 0, 0x11, 0x22, 0, 0, 0x11, 0x22, 0, 0, 0x11, 0x22, 0, 0, 1, 2, 0, 0,
            0x11, 0x21, 0x11, 0x21, 0x11, 0x21, 0x11, 0x22, 0x11, 0x22, 0x11, 0x22, 0, 1, 0, 0, 2, 0, 0, 0,
            0, 0, 0, 0, 0, 1, 1, 1, 0x22, 0, 0, 0, 0, 1, 1, 1, 1, 1, 1, 0x11,
            0x11, 0x11, 0x11, 0x11, 0x11, 0x44, 0x44, 0, 0, 0, 1, 1, 1, 2, 0, 0, 3, 0, 0, 0,
            0, 0, 0, 0, 0, 0, 0, 0, 1, 0, 3, 5, 0, 0, 0, 0, 0, 0, 4, 4,
            0, 0
        };

        private static final int[] GIVES_OF = {
            0, 7, 0, 0, 0, 0, 0, 0, 0, 0, 0, 0, 0, 0, 0, 0, 0, 1, 0, 0,
            2, 1, 2, 0, 0, 4, 0, 0, 0, 0, 0, 0, 0, 0, 0, 0, 0, 0, 0, 0,
            0, 0, 0, 0, 0, 0, 1, 0, 0, 0, 0, 0, 0, 0, 0, 0, 0, 0, 0, 0,
            0, 0, 0, 0, 0, 0, 0, 0, 0, 0, 0, 0, 0, 0, 0, 0, 0, 0, 0, 0,
            0, 0, 0, 0, 0, 0, 0, 0, 0, 0, 0, 0, 0, 0, 0, 0, 1, 2, 0, 0,
            1, 2, 0, 0, 1, 2, 0, 0, 1, 2, 0, 0, 1, 2, 0, 0, 1, 2, 0, 0,
            1, 2, 1, 2, 1, 2, 1, 2, 1, 2, 1, 2, 0, 2, 0, 0, 1, 0, 0, 0,
            0, 0, 0, 0, 0, 1, 1, 1, 1, 0, 0, 0, 0, 0, 0, 0, 0, 0, 0, 0,
            0, 0, 0, 0, 0, 0, 0, 0, 0, 0, 0, 0, 0, 0, 0, 0, 0, 0, 0, 0,
            0, 0, 0, 0, 0, 0, 0, 0, 3, 0, 1, 0, 0, 0, 0, 0, 0, 0, 0, 0,
            0, 0
        };

        static boolean isJump(int op) {
            return op >= IF_ZERO && op <= GOTO || op == IF_NULL || op == IF_NOT_NULL;
        }

        static boolean isSwitch(int op) {
            return op == TABLE || op == LOOKUP;
        }

        static boolean goesOn(int op) {
            return op != GOTO && op != THROW && !(op >= TABLE && op <= RETURN);
        }

        static boolean isLoad(int op) {
            return op == LOAD_INT || op == LOAD_LONG || op == LOAD_REFERENCE;
        }

        static boolean isStore(int op) {
            return op == STORE_INT || op == STORE_LONG || op == STORE_REFERENCE;
        }

        static boolean usesLocal(int op) {
            return isLoad(op) || isStore(op) || op == GROW;
        }

        static int localWidth(int op) {
            return op == LOAD_LONG || op == STORE_LONG ? 2 : 1;
        }

        static boolean isShift(int op) {
            return op >= 120 && op <= 125;
        }

        static boolean isDivision(int op) {
            return op == 108 || op == 109 || op == 112 || op == 113;
        }

        static boolean isBinary(int op) {
            return op >= ADD_INT && op <= 113 && (op & 2) == 0 || op >= 120 && op <= 131 || op == COMPARE;
        }

        static boolean isUnary(int op) {
            return op == 116 || op == 117 || op == 133 || op == 136 || op >= 145 && op <= 147;
        }

        /** How many bytes an instruction has in a file; 0 if it is none, or one of those with a length of their own. */
        static int lengthOf(int raw) {
            return raw < 0 || raw >= LENGTH_OF.length ? 0 : LENGTH_OF[raw];
        }

        /** The kinds that an instruction takes, the uppermost in the lowest digit; fields and calls are not here. */
        static int takes(int op) {
            return op < 0 || op >= TAKES_OF.length ? 0 : TAKES_OF[op];
        }

        /** The kind that an instruction gives, 0 none; copies, fields and calls are not here. */
        static int gives(int op) {
            return op < 0 || op >= GIVES_OF.length ? 0 : GIVES_OF[op];
        }

        static int placesOf(int kinds) {
            int places = 0;
            for (int rest = kinds; rest > 0; rest >>= 4) {
                places += (rest & 15) == KIND_LONG ? 2 : 1;
            }
            return places;
        }

        static int kindCount(int kinds) {
            int n = 0;
            for (int rest = kinds; rest > 0; rest >>= 4) {
                n++;
            }
            return n;
        }

        /** Kind number k, counted from the lowest value on the stack (or the first parameter). */
        static int kindAt(int kinds, int k) {
            return kinds >> 4 * (kindCount(kinds) - 1 - k) & 15;
        }

        /** A binary operator on two values; a division by 0 is the caller's to look for. */
        static long binary(int op, long x, long y) {
            if (op == COMPARE) {
                return Long.compare(x, y);
            }
            switch (takes(op)) {
                case 0x11: return ofInts(op, (int) x, (int) y);
                case 0x21: return ofLongs(op, x, y & 63);
                default: return ofLongs(op, x, y);
            }
        }

        private static int ofInts(int op, int x, int y) {
            switch (op) {
                case ADD_INT: return x + y;
                case 100: return x - y;
                case 104: return x * y;
                case 108: return y == 0 ? 0 : x / y;
                case 112: return y == 0 ? 0 : x % y;
                case 120: return x << y;
                case 122: return x >> y;
                case 124: return x >>> y;
                case 126: return x & y;
                case 128: return x | y;
                default: return x ^ y;
            }
        }

        private static long ofLongs(int op, long x, long y) {
            switch (op) {
                case ADD_LONG: return x + y;
                case 101: return x - y;
                case 105: return x * y;
                case 109: return y == 0 ? 0 : x / y;
                case 113: return y == 0 ? 0 : x % y;
                case 121: return x << y;
                case 123: return x >> y;
                case 125: return x >>> y;
                case 127: return x & y;
                case 129: return x | y;
                default: return x ^ y;
            }
        }

        static long unary(int op, long x) {
            switch (op) {
                case 116: return -(int) x;
                case 117: return -x;
                case 136: return (int) x;
                case 145: return (byte) x;
                case 146: return (char) x;
                case 147: return (short) x;
                default: return x;
            }
        }

        /** Whether a jump on one int (with y = 0) or two ints is taken. */
        static boolean isTaken(int op, int x, int y) {
            switch (op < IF_EQUAL ? op - IF_ZERO : op - IF_EQUAL) {
                case 0: return x == y;
                case 1: return x != y;
                case 2: return x < y;
                case 3: return x >= y;
                case 4: return x > y;
                default: return x <= y;
            }
        }

        static String errorName(int kind) {
            switch (kind) {
                case DIVIDE_ERROR: return "DivideError";
                case NULL_ERROR: return "NullError";
                case INDEX_ERROR: return "IndexError";
                default: return "SizeError";
            }
        }
    }

    /**
     * The code of a method as a row of instructions, each with one number: a value, a local (of GROW with its step
     * above), the number of an instruction, of a field or method, or the place of a switch in 'table'. A switch is
     * there: how many targets, its low number, the targets (default first), and of LOOKUP the numbers.
     */
    private static final class Row {
        int[] op;
        long[] arg;
        int count;
        int[] table;
        int tableCount;
        int[] catchFrom;
        int[] catchTo;
        int[] catchAt;
        int[] catchKind;
        int catchCount;
        int maxStack;
        /** Which method of its file this is. */
        int number;
        /** What checking found before each instruction: height (-1 not come to) and types, a hex digit for each. */
        byte[] heights;
        long[] lowLocals;
        long[] highLocals;

        Row(int room, int tableRoom, int catchRoom) {
            op = new int[room];
            arg = new long[room];
            table = new int[tableRoom];
            catchFrom = new int[catchRoom];
            catchTo = new int[catchRoom];
            catchAt = new int[catchRoom];
            catchKind = new int[catchRoom];
        }

        int opAt(int i) {
            return i < 0 || i >= count ? -1 : op[i];
        }

        long argAt(int i) {
            return i < 0 || i >= count ? 0 : arg[i];
        }

        int tableAt(int t) {
            return t < 0 || t >= tableCount ? 0 : table[t];
        }

        int localOf(int i) {
            return (int) argAt(i) & 255;
        }

        int stepOf(int i) {
            return (int) (argAt(i) >> 8);
        }

        void set(int i, int newOp, long newArg) {
            if (i >= 0 && i < op.length) {
                op[i] = newOp;
                arg[i] = newArg;
            }
        }

        void add(int newOp, long newArg) {
            if (count < op.length) {
                set(count, newOp, newArg);
                count++;
            }
        }

        void addToTable(int v) {
            if (tableCount < table.length) {
                table[tableCount] = v;
                tableCount++;
            }
        }

        void addCatch(int from, int to, int at, int kind) {
            if (catchCount < catchFrom.length) {
                catchFrom[catchCount] = from;
                catchTo[catchCount] = to;
                catchAt[catchCount] = at;
                catchKind[catchCount] = kind;
                catchCount++;
            }
        }

        int targetCount(int i) {
            int o = opAt(i);
            if (Ops.isJump(o)) {
                return 1;
            }
            return Ops.isSwitch(o) ? tableAt((int) argAt(i)) : 0;
        }

        int targetAt(int i, int j) {
            return Ops.isJump(opAt(i)) ? (int) argAt(i) : tableAt((int) argAt(i) + 2 + j);
        }

        void setTarget(int i, int j, int target) {
            if (Ops.isJump(opAt(i))) {
                set(i, opAt(i), target);
                return;
            }
            int t = (int) argAt(i) + 2 + j;
            if (t >= 0 && t < tableCount) {
                table[t] = target;
            }
        }

        boolean catchHas(int c, int i) {
            return c >= 0 && c < catchCount && catchFrom[c] <= i && i < catchTo[c];
        }

        boolean isCaught(int i) {
            for (int c = 0; c < catchCount; c++) {
                if (catchHas(c, i)) {
                    return true;
                }
            }
            return false;
        }

        int heightAt(int i) {
            return heights == null || i < 0 || i >= heights.length ? -1 : heights[i];
        }

        int localAt(int i, int k) {
            if (lowLocals == null || highLocals == null || i < 0 || i >= lowLocals.length || i >= highLocals.length) {
                return NONE;
            }
            return (int) (k < 16 ? lowLocals[i] >>> 4 * k : highLocals[i] >>> 4 * (k - 16)) & 15;
        }

        void copyFrom(Row other) {
            number = other.number;
            count = 0;
            for (int i = 0; i < other.count; i++) {
                add(other.op[i], other.arg[i]);
            }
            tableCount = 0;
            for (int t = 0; t < other.tableCount; t++) {
                addToTable(other.table[t]);
            }
            catchCount = 0;
            for (int c = 0; c < other.catchCount; c++) {
                addCatch(other.catchFrom[c], other.catchTo[c], other.catchAt[c], other.catchKind[c]);
            }
        }

        /** Takes n instructions away at i; what pointed to them points to what stands behind. */
        void remove(int i, int n) {
            if (i < 0 || n <= 0 || i + n > count) {
                return;
            }
            for (int k = i; k + n < count; k++) {
                op[k] = op[k + n];
                arg[k] = arg[k + n];
            }
            count -= n;
            for (int k = 0; k < count; k++) {
                int targets = targetCount(k);
                for (int j = 0; j < targets; j++) {
                    setTarget(k, j, behindRemoved(targetAt(k, j), i, n));
                }
            }
            int kept = 0;
            for (int c = 0; c < catchCount; c++) {
                int from = behindRemoved(catchFrom[c], i, n);
                int to = behindRemoved(catchTo[c], i, n);
                if (from < to) {
                    catchFrom[kept] = from;
                    catchTo[kept] = to;
                    catchAt[kept] = behindRemoved(catchAt[c], i, n);
                    catchKind[kept] = catchKind[c];
                    kept++;
                }
            }
            catchCount = kept;
        }

        private static int behindRemoved(int target, int i, int n) {
            return target <= i ? target : Math.max(i, target - n);
        }
    }

    /** A file that keeps all rules. Names are places in 'data': where the NAME's entry begins. */
    private static final class Unit {
        final byte[] data;
        int poolCount;
        int className;
        int aboveName;
        int fieldCount;
        final int[] fieldName;
        final int[] fieldType;
        final int[] fieldKind;
        int methodCount;
        final int[] methodName;
        final int[] methodType;
        final int[] methodTakes;
        final int[] methodGives;
        final Row[] rows;
        int instructions;
        boolean checked;
        int faultMethod = -1;
        int faultAt = -1;

        Unit(byte[] data, int fields, int methods) {
            this.data = data;
            fieldCount = fields;
            fieldName = new int[fields];
            fieldType = new int[fields];
            fieldKind = new int[fields];
            methodCount = methods;
            methodName = new int[methods];
            methodType = new int[methods];
            methodTakes = new int[methods];
            methodGives = new int[methods];
            rows = new Row[methods];
        }

        Row rowAt(int m) {
            return m < 0 || m >= rows.length ? null : rows[m];
        }

        /** A field that the file has not is a counter that is being put in. */
        int kindOfField(int k) {
            return k < 0 || k >= fieldKind.length ? KIND_LONG : fieldKind[k];
        }

        int takesOfMethod(int m) {
            return m < 0 || m >= methodTakes.length ? 0 : methodTakes[m];
        }

        int givesOfMethod(int m) {
            return m < 0 || m >= methodGives.length ? 0 : methodGives[m];
        }

        int takes(Row row, int i) {
            int op = row.opAt(i);
            if (op == PUT_FIELD) {
                return kindOfField((int) row.argAt(i));
            }
            return op == CALL ? takesOfMethod((int) row.argAt(i)) : Ops.takes(op);
        }

        int gives(Row row, int i) {
            int op = row.opAt(i);
            if (op == GET_FIELD) {
                return kindOfField((int) row.argAt(i));
            }
            return op == CALL ? givesOfMethod((int) row.argAt(i)) : Ops.gives(op);
        }

        int placesGiven(Row row, int i) {
            switch (row.opAt(i)) {
                case DUP: case SWAP: return 2;
                case DUP_UNDER: return 3;
                case DUP_TWO: return 4;
                default: return Ops.placesOf(gives(row, i));
            }
        }
    }

    /** Reads the layout of a file: rules 1 to 12 and 17. */
    private static final class Reader {
        byte[] data = new byte[0];
        int end;
        int brokenRule;
        int brokenPlace = -1;
        /** Where each pool entry begins; 0 if the number has none. */
        final int[] entry = new int[MOST_POOL];
        int poolCount;
        int headAt;
        int fieldCount;
        int methodCount;
        /** Where the fields, then the methods, begin. */
        final int[] memberAt = new int[2 * MOST_MEMBERS];
        final int[] codeAt = new int[MOST_MEMBERS];
        final int[] codeEnd = new int[MOST_MEMBERS];
        /** What the method's type that was looked at last takes (in kinds and places) and gives. */
        int takes;
        int places;
        int gives;
        private int p;
        private int attributesAt;

        boolean isSound(Bytes source) {
            data = source.data;
            end = source.count;
            brokenRule = 0;
            brokenPlace = -1;
            p = 0;
            return magicHolds() && poolFits() && headFits() && fieldsFit() && methodsFit() && fileAttributesFit()
                    && entriesPoint() && flagsHold() && headHolds() && namesHold() && typesHold()
                    && noTwins() && codesHold() && (p == end || breaks(17, p));
        }

        /** Notes the rule that is broken. */
        boolean breaks(int rule, int place) {
            brokenRule = rule;
            brokenPlace = place;
            return false;
        }

        int u1(int at) {
            return at < 0 || at >= end || at >= data.length ? 0 : data[at] & 255;
        }

        int u2(int at) {
            if (at < 0 || at > end - 2 || end > data.length) {
                return 0;
            }
            return (data[at] & 255) << 8 | data[at + 1] & 255;
        }

        int s4(int at) {
            if (at < 0 || at > end - 4 || end > data.length) {
                return 0;
            }
            return data[at] << 24 | (data[at + 1] & 255) << 16 | (data[at + 2] & 255) << 8 | data[at + 3] & 255;
        }

        long u4(int at) {
            return s4(at) & 0xffffffffL;
        }

        private boolean isThere(int n) {
            return n <= end - p || breaks(2, end);
        }

        private boolean magicHolds() {
            for (int i = 0; i < MAGIC.length; i++) {
                if (i >= end) {
                    return breaks(2, end);
                }
                if (u1(i) != MAGIC[i]) {
                    return breaks(1, i);
                }
            }
            p = MAGIC.length;
            return true;
        }

        private boolean poolFits() {
            if (!isThere(2)) {
                return false;
            }
            poolCount = u2(p);
            if (poolCount < 1 || poolCount > MOST_POOL) {
                return breaks(5, p);
            }
            p += 2;
            Arrays.fill(entry, 0);
            for (int k = 1; k < poolCount && k < entry.length; k++) {
                if (!entryFits()) {
                    return false;
                }
                entry[k] = p;
                k += u1(p) == TAG_LONG ? 1 : 0;
                p += entryLength(u1(p));
            }
            return true;
        }

        private boolean entryFits() {
            if (!isThere(1)) {
                return false;
            }
            int tag = u1(p);
            if (tag == TAG_NAME) {
                return nameFits();
            }
            return entryLength(tag) == 0 ? breaks(3, p) : isThere(entryLength(tag));
        }

        private int entryLength(int tag) {
            switch (tag) {
                case TAG_NAME: return 3 + u2(p + 1);
                case TAG_CLASS: return 3;
                case TAG_INT: case TAG_FIELD: case TAG_METHOD: case TAG_PAIR: return 5;
                case TAG_LONG: return 9;
                default: return 0;
            }
        }

        /** The tag stands left of the file's end: a wrong sign before the end is told, though more is missing. */
        private boolean nameFits() {
            if (!isThere(3)) {
                return false;
            }
            int length = u2(p + 1);
            if (length < 1 || length > MOST_NAME) {
                return breaks(4, p);
            }
            for (int i = p + 3; i < p + 3 + length && i < end; i++) {
                if (u1(i) < 33 || u1(i) > 126) {
                    return breaks(4, p);
                }
            }
            return isThere(3 + length);
        }

        private boolean headFits() {
            headAt = p;
            if (!isThere(8)) {
                return false;
            }
            p += 8;
            return true;
        }

        private boolean fieldsFit() {
            methodCount = 0;
            fieldCount = 0;
            fieldCount = membersFit(0);
            return fieldCount >= 0;
        }

        private boolean methodsFit() {
            methodCount = membersFit(fieldCount);
            return methodCount >= 0;
        }

        /** How many fields or methods stand here, -1 if they break a rule. */
        private int membersFit(int first) {
            if (!isThere(2)) {
                return -1;
            }
            int n = u2(p);
            if (n > MOST_MEMBERS) {
                breaks(5, p);
                return -1;
            }
            p += 2;
            for (int k = first; k < first + n && k < memberAt.length; k++) {
                memberAt[k] = p;
                if (!isThere(6)) {
                    return -1;
                }
                p += 6;
                if (!attributesFit()) {
                    return -1;
                }
            }
            return n;
        }

        private boolean fileAttributesFit() {
            attributesAt = p;
            return attributesFit();
        }

        private boolean attributesFit() {
            if (!isThere(2)) {
                return false;
            }
            int n = u2(p);
            p += 2;
            for (int k = 0; k < n; k++) {
                if (!isThere(6)) {
                    return false;
                }
                long length = u4(p + 2);
                p += 6;
                if (length > end - p) {
                    return breaks(2, end);
                }
                p += (int) length;
            }
            return true;
        }

        /** Where pool entry k begins, 0 if there is none. */
        int entryAt(int k) {
            return k < 1 || k >= poolCount || k >= entry.length ? 0 : entry[k];
        }

        int tagOf(int k) {
            return entryAt(k) == 0 ? 0 : u1(entryAt(k));
        }

        /** The entry to which entry k points first, or second. */
        int firstOf(int k) {
            return u2(entryAt(k) + 1);
        }

        int secondOf(int k) {
            return u2(entryAt(k) + 3);
        }

        private boolean entriesPoint() {
            for (int k = 1; k < poolCount; k++) {
                if (!entryPoints(k)) {
                    return breaks(6, entryAt(k));
                }
            }
            return true;
        }

        private boolean entryPoints(int k) {
            switch (tagOf(k)) {
                case TAG_CLASS: return tagOf(firstOf(k)) == TAG_NAME;
                case TAG_PAIR: return tagOf(firstOf(k)) == TAG_NAME && tagOf(secondOf(k)) == TAG_NAME;
                case TAG_FIELD: case TAG_METHOD:
                    return tagOf(firstOf(k)) == TAG_CLASS && tagOf(secondOf(k)) == TAG_PAIR;
                default: return true;
            }
        }

        int memberPlace(int k) {
            return k < 0 || k >= memberAt.length ? 0 : memberAt[k];
        }

        /** The pool's numbers of the name and the type of member k. */
        int nameOf(int k) {
            return u2(memberPlace(k) + 2);
        }

        int typeOf(int k) {
            return u2(memberPlace(k) + 4);
        }

        private boolean flagsHold() {
            if (u2(headAt) != FILE_FLAGS) {
                return breaks(7, headAt);
            }
            for (int k = 0; k < fieldCount + methodCount; k++) {
                if (u2(memberPlace(k)) != MEMBER_FLAGS) {
                    return breaks(7, memberPlace(k));
                }
            }
            return true;
        }

        private boolean headHolds() {
            if (tagOf(u2(headAt + 2)) != TAG_CLASS) {
                return breaks(8, headAt + 2);
            }
            if (tagOf(u2(headAt + 4)) != TAG_CLASS) {
                return breaks(8, headAt + 4);
            }
            return u2(headAt + 6) == 0 || breaks(8, headAt + 6);
        }

        private boolean namesHold() {
            for (int k = 0; k < fieldCount + methodCount; k++) {
                int at = memberPlace(k);
                if (!isNameAt(at + 2) || !isNameAt(at + 4) || !attributeNamesHold(at + 6)) {
                    return false;
                }
            }
            return attributeNamesHold(attributesAt);
        }

        private boolean isNameAt(int at) {
            return tagOf(u2(at)) == TAG_NAME || breaks(9, at);
        }

        private boolean attributeNamesHold(int at) {
            int n = u2(at);
            int next = at + 2;
            for (int k = 0; k < n; k++) {
                if (!isNameAt(next)) {
                    return false;
                }
                next += 6 + s4(next + 2);
            }
            return true;
        }

        private boolean typesHold() {
            for (int k = 1; k < poolCount; k++) {
                int tag = tagOf(k);
                if (tag == TAG_FIELD && kindOfType(secondOf(secondOf(k))) == 0
                        || tag == TAG_METHOD && !isMethodType(secondOf(secondOf(k)))) {
                    return breaks(10, entryAt(k));
                }
            }
            for (int k = 0; k < fieldCount + methodCount; k++) {
                boolean holds = k < fieldCount ? kindOfType(typeOf(k)) != 0
                        : isMethodType(typeOf(k)) && places <= MOST_PARAMETERS;
                if (!holds) {
                    return breaks(10, memberPlace(k) + 4);
                }
            }
            return true;
        }

        int nameLength(int k) {
            return u2(entryAt(k) + 1);
        }

        int nameSign(int k, int i) {
            return u1(entryAt(k) + 3 + i);
        }

        /** The kind of a type, 0 if the name is none. */
        int kindOfType(int name) {
            int kind = kindOfPart(name, 0);
            return nameLength(name) == (kind == KIND_INTS ? 2 : 1) ? kind : 0;
        }

        private int kindOfPart(int name, int i) {
            if (i >= nameLength(name)) {
                return 0;
            }
            switch (nameSign(name, i)) {
                case 'I': return KIND_INT;
                case 'J': return KIND_LONG;
                case '[': return i + 1 < nameLength(name) && nameSign(name, i + 1) == 'I' ? KIND_INTS : 0;
                default: return 0;
            }
        }

        boolean isMethodType(int name) {
            takes = 0;
            places = 0;
            gives = 0;
            int length = nameLength(name);
            if (nameSign(name, 0) != '(') {
                return false;
            }
            int i = 1;
            for (int kind = kindOfPart(name, i); kind != 0 && i < length; kind = kindOfPart(name, i)) {
                takes = takes << 4 | kind;
                places += kind == KIND_LONG ? 2 : 1;
                i += kind == KIND_INTS ? 2 : 1;
            }
            if (i + 1 >= length || nameSign(name, i) != ')') {
                return false;
            }
            i++;
            gives = kindOfPart(name, i);
            if (gives == 0 && nameSign(name, i) != 'V') {
                return false;
            }
            return i + (gives == KIND_INTS ? 2 : 1) == length;
        }

        boolean isSameName(int a, int b) {
            int atA = entryAt(a);
            int atB = entryAt(b);
            int length = u2(atA + 1);
            for (int i = 1; i < 3 + length; i++) {
                if (u1(atA + i) != u1(atB + i)) {
                    return false;
                }
            }
            return true;
        }

        boolean isText(int name, String text) {
            if (nameLength(name) != text.length()) {
                return false;
            }
            for (int i = 0; i < text.length(); i++) {
                if (nameSign(name, i) != text.charAt(i)) {
                    return false;
                }
            }
            return true;
        }

        private boolean noTwins() {
            for (int k = 0; k < fieldCount + methodCount; k++) {
                int first = k < fieldCount ? 0 : fieldCount;
                for (int j = first; j < k; j++) {
                    if (isSameName(nameOf(j), nameOf(k))) {
                        return breaks(11, memberPlace(k) + 2);
                    }
                }
            }
            return true;
        }

        private boolean codesHold() {
            for (int m = 0; m < methodCount && m < codeAt.length; m++) {
                int at = memberPlace(fieldCount + m);
                int n = u2(at + 6);
                int next = at + 8;
                int codes = 0;
                for (int k = 0; k < n; k++) {
                    int behind = next + 6 + s4(next + 2);
                    if (isText(u2(next), "Code")) {
                        codes++;
                        codeAt[m] = next + 6;
                        codeEnd[m] = behind;
                    }
                    next = behind;
                }
                if (codes != 1) {
                    return breaks(12, at);
                }
            }
            return true;
        }
    }

    /** Reads the code of a file's methods: rules 13 to 16. */
    private static final class CodeReader {
        final Reader file = new Reader();
        /** Of the method that is looked at: where its code begins, its bytes, its limits, its catches. */
        private int code;
        private int size;
        private int maxStack;
        private int maxLocals;
        private int catchesAt;
        private int catchCount;
        /** The number of the instruction at each offset, -1 none; at the end, how many there are. */
        private final int[] numberAt = new int[MOST_CODE + 1];
        private int instructions;
        /** The instruction that was looked at last, what it points to not yet looked up. */
        private int op;
        private long arg;
        private int offset;

        /** The file in these bytes; null if a rule is broken. */
        Unit unitOf(Bytes source) {
            if (!file.isSound(source) || !limitsHold() || !instructionsHold() || !pointersHold()) {
                return null;
            }
            Unit unit = build();
            for (int m = 0; m < unit.rows.length; m++) {
                unit.rows[m] = rowOf(m);
                unit.instructions += unit.rows[m].count;
            }
            return unit;
        }

        private boolean limitsHold() {
            for (int m = 0; m < file.methodCount && m < MOST_MEMBERS; m++) {
                file.isMethodType(file.typeOf(file.fieldCount + m));
                if (!headHolds(file.codeAt[m], file.codeEnd[m], file.places)) {
                    return false;
                }
            }
            return true;
        }

        private boolean headHolds(int start, int end, int places) {
            if (start + 2 > end) {
                return file.breaks(14, end);
            }
            if (file.u2(start) > MOST_PLACES) {
                return file.breaks(13, start);
            }
            if (start + 4 > end) {
                return file.breaks(14, end);
            }
            if (file.u2(start + 2) > MOST_PLACES || file.u2(start + 2) < places) {
                return file.breaks(13, start + 2);
            }
            if (start + 8 > end) {
                return file.breaks(14, end);
            }
            long n = file.u4(start + 4);
            if (n < 1 || n > MOST_CODE) {
                return file.breaks(13, start + 4);
            }
            return catchesHold(start + 8 + (int) n, end);
        }

        private boolean catchesHold(int start, int end) {
            if (start + 2 > end) {
                return file.breaks(14, end);
            }
            int n = file.u2(start);
            if (n > MOST_CATCHES) {
                return file.breaks(13, start);
            }
            int at = start + 2 + 8 * n;
            if (at + 2 > end) {
                return file.breaks(14, end);
            }
            int attributes = file.u2(at);
            at += 2;
            for (int k = 0; k < attributes; k++) {
                if (at + 6 > end || file.u4(at + 2) > end - at - 6) {
                    return file.breaks(14, end);
                }
                at += 6 + file.s4(at + 2);
            }
            return at == end || file.breaks(14, at);
        }

        private void lookAt(int m) {
            int start = m < 0 || m >= MOST_MEMBERS ? 0 : file.codeAt[m];
            maxStack = file.u2(start);
            maxLocals = file.u2(start + 2);
            size = Math.min(file.s4(start + 4), MOST_CODE);
            code = start + 8;
            catchesAt = code + size + 2;
            catchCount = file.u2(code + size);
        }

        private boolean instructionsHold() {
            for (int m = 0; m < file.methodCount; m++) {
                lookAt(m);
                for (int o = 0; o < size; o += lengthAt(o)) {
                    if (lengthAt(o) <= 0) {
                        return file.breaks(15, code + o);
                    }
                }
            }
            return true;
        }

        private int u1(int o) {
            return o < 0 || o >= size ? 0 : file.u1(code + o);
        }

        private int u2(int o) {
            return o < 0 || o > size - 2 ? 0 : file.u2(code + o);
        }

        private int s4(int o) {
            return o < 0 || o > size - 4 ? 0 : file.s4(code + o);
        }

        /** How many bytes the instruction at an offset has; 0 if it is none, or not whole. */
        private int lengthAt(int o) {
            int length;
            switch (u1(o)) {
                case TABLE: length = tableLength(o); break;
                case LOOKUP: length = lookupLength(o); break;
                case RAW_WIDE: length = wideLength(u1(o + 1)); break;
                case NEW_INTS: length = u1(o + 1) == 10 ? 2 : 0; break;
                default: length = Ops.lengthOf(u1(o)); break;
            }
            return o + length > size ? 0 : length;
        }

        private static int wideLength(int raw) {
            if (raw == GROW) {
                return 6;
            }
            return Ops.isLoad(raw) || Ops.isStore(raw) ? 4 : 0;
        }

        /** Where the numbers of a switch begin: behind the bytes that fill up to a multiple of 4. */
        private static int numbersOf(int o) {
            return o + 4 & ~3;
        }

        private int tableLength(int o) {
            int q = numbersOf(o);
            long span = (long) s4(q + 8) - s4(q + 4);
            if (q + 12 > size || span < 0 || span > MOST_SWITCH) {
                return 0;
            }
            return q + 16 + 4 * (int) span - o;
        }

        private int lookupLength(int o) {
            int q = numbersOf(o);
            int n = s4(q + 4);
            if (q + 8 > size || n < 0 || n > MOST_SWITCH || q + 8 + 8 * n > size) {
                return 0;
            }
            for (int k = 1; k < n; k++) {
                if (s4(q + 8 + 8 * k) <= s4(q + 8 * k)) {
                    return 0;
                }
            }
            return q + 8 + 8 * n - o;
        }

        /** Takes the instruction at an offset apart: pool numbers and offsets are left as they are. */
        private void decode(int o) {
            int raw = u1(o);
            offset = o;
            op = raw;
            arg = 0;
            if (raw >= 2 && raw <= 8) {
                set(PUSH_INT, raw - 3);
            } else if (raw == RAW_PUSH_LONG || raw == RAW_PUSH_LONG + 1) {
                set(RAW_PUSH_LONG, raw - RAW_PUSH_LONG);
            } else if (raw == RAW_PUSH_BYTE) {
                set(PUSH_INT, (byte) u1(o + 1));
            } else if (raw == PUSH_INT) {
                set(PUSH_INT, (short) u2(o + 1));
            } else if (raw == RAW_POOL_BYTE) {
                set(RAW_POOL_INT, u1(o + 1));
            } else if (raw == RAW_GOTO_FAR) {
                set(GOTO, (long) o + s4(o + 1));
            } else if (Ops.isJump(raw)) {
                set(raw, o + (short) u2(o + 1));
            } else if (Ops.isSwitch(raw)) {
                set(raw, numbersOf(o));
            } else if (Ops.lengthOf(raw) == 3 && raw != GROW) {
                set(raw, u2(o + 1));
            } else {
                decodeLocal(o);
            }
        }

        private void set(int newOp, long newArg) {
            op = newOp;
            arg = newArg;
        }

        private void decodeLocal(int o) {
            int raw = u1(o);
            if (raw == RAW_WIDE) {
                int k = u2(o + 2);
                // a local beyond any bound must not look like a low one with a step
                set(u1(o + 1), k > 255 ? 255 : u1(o + 1) == GROW ? (long) (short) u2(o + 4) << 8 | k : k);
            } else if (raw == GROW) {
                set(GROW, (long) (byte) u1(o + 2) << 8 | u1(o + 1));
            } else if (Ops.usesLocal(raw)) {
                set(raw, u1(o + 1));
            } else if (raw >= 26 && raw <= 33) {
                set(raw < 30 ? LOAD_INT : LOAD_LONG, raw - 26 & 3);
            } else if (raw >= 42 && raw <= 45) {
                set(LOAD_REFERENCE, raw - 42);
            } else if (raw >= 59 && raw <= 66) {
                set(raw < 63 ? STORE_INT : STORE_LONG, raw - 59 & 3);
            } else if (raw >= 75 && raw <= 78) {
                set(STORE_REFERENCE, raw - 75);
            }
        }

        private boolean pointersHold() {
            for (int m = 0; m < file.methodCount; m++) {
                lookAt(m);
                numberInstructions();
                for (int o = 0; o < size; o += Math.max(1, lengthAt(o))) {
                    decode(o);
                    if (!pointsWell()) {
                        return file.breaks(16, code + o);
                    }
                }
                for (int c = 0; c < catchCount; c++) {
                    if (!catchHolds(catchesAt + 8 * c)) {
                        return file.breaks(16, catchesAt + 8 * c);
                    }
                }
            }
            return true;
        }

        private void numberInstructions() {
            Arrays.fill(numberAt, -1);
            instructions = 0;
            for (int o = 0; o < size && o < numberAt.length; o += Math.max(1, lengthAt(o))) {
                numberAt[o] = instructions;
                instructions++;
            }
            if (size >= 0 && size < numberAt.length) {
                numberAt[size] = instructions;
            }
        }

        private int numberOf(long o) {
            return o < 0 || o > size || o >= numberAt.length ? -1 : numberAt[(int) o];
        }

        private boolean isInstruction(long o) {
            return o < size && numberOf(o) >= 0;
        }

        private boolean pointsWell() {
            if (Ops.isJump(op)) {
                return isInstruction(arg);
            }
            if (Ops.isSwitch(op)) {
                return targetsHold();
            }
            if (Ops.usesLocal(op)) {
                return ((int) arg & 255) + Ops.localWidth(op) <= maxLocals;
            }
            switch (op) {
                case RAW_POOL_INT: return file.tagOf((int) arg) == TAG_INT;
                case PUSH_LONG: return file.tagOf((int) arg) == TAG_LONG;
                case GET_FIELD: case PUT_FIELD: return memberOf((int) arg, TAG_FIELD) >= 0;
                case CALL: return memberOf((int) arg, TAG_METHOD) >= 0;
                default: return true;
            }
        }

        private int switchCount(int q) {
            return op == TABLE ? s4(q + 8) - s4(q + 4) + 1 : s4(q + 4);
        }

        /** Where target k of a switch goes, -1 the default. */
        private long switchTarget(int q, int k) {
            if (k < 0) {
                return (long) offset + s4(q);
            }
            return (long) offset + s4(op == TABLE ? q + 12 + 4 * k : q + 12 + 8 * k);
        }

        private boolean targetsHold() {
            int q = (int) arg;
            int n = switchCount(q);
            for (int k = -1; k < n; k++) {
                if (!isInstruction(switchTarget(q, k))) {
                    return false;
                }
            }
            return true;
        }

        private boolean catchHolds(int at) {
            int from = file.u2(at);
            int to = file.u2(at + 2);
            return isInstruction(from) && numberOf(to) >= 0 && from < to && isInstruction(file.u2(at + 4))
                    && errorOf(file.u2(at + 6)) >= ANY_ERROR;
        }

        /** The error that a handler's CLASS means: ANY_ERROR for 0, less if it is none. */
        private int errorOf(int entry) {
            if (entry == 0) {
                return ANY_ERROR;
            }
            for (int kind = DIVIDE_ERROR; kind <= SIZE_ERROR; kind++) {
                if (file.tagOf(entry) == TAG_CLASS && file.isText(file.firstOf(entry), Ops.errorName(kind))) {
                    return kind;
                }
            }
            return ANY_ERROR - 1;
        }

        /** The number of the field or method of this file that a pool entry means, -1 none. */
        private int memberOf(int entry, int tag) {
            if (file.tagOf(entry) != tag) {
                return -1;
            }
            int ownClass = file.u2(file.headAt + 2);
            if (!file.isSameName(file.firstOf(file.firstOf(entry)), file.firstOf(ownClass))) {
                return -1;
            }
            int pair = file.secondOf(entry);
            int first = tag == TAG_FIELD ? 0 : file.fieldCount;
            int n = tag == TAG_FIELD ? file.fieldCount : file.methodCount;
            for (int k = 0; k < n; k++) {
                if (file.isSameName(file.nameOf(first + k), file.firstOf(pair))
                        && file.isSameName(file.typeOf(first + k), file.secondOf(pair))) {
                    return k;
                }
            }
            return -1;
        }

        /** The file without the rows of its methods. */
        private Unit build() {
            Unit unit = new Unit(Arrays.copyOf(file.data, file.end), file.fieldCount, file.methodCount);
            unit.poolCount = file.poolCount;
            unit.className = file.entryAt(file.firstOf(file.u2(file.headAt + 2)));
            unit.aboveName = file.entryAt(file.firstOf(file.u2(file.headAt + 4)));
            for (int k = 0; k < unit.fieldName.length; k++) {
                unit.fieldName[k] = file.entryAt(file.nameOf(k));
                unit.fieldType[k] = file.entryAt(file.typeOf(k));
                unit.fieldKind[k] = file.kindOfType(file.typeOf(k));
            }
            for (int m = 0; m < unit.rows.length; m++) {
                int k = file.fieldCount + m;
                unit.methodName[m] = file.entryAt(file.nameOf(k));
                unit.methodType[m] = file.entryAt(file.typeOf(k));
                file.isMethodType(file.typeOf(k));
                unit.methodTakes[m] = file.takes;
                unit.methodGives[m] = file.gives;
            }
            return unit;
        }

        private Row rowOf(int m) {
            lookAt(m);
            numberInstructions();
            Row row = new Row(instructions, tableRoom(), catchCount);
            row.number = m;
            row.maxStack = maxStack;
            for (int o = 0; o < size; o += Math.max(1, lengthAt(o))) {
                decode(o);
                addTo(row);
            }
            for (int c = 0; c < catchCount; c++) {
                int at = catchesAt + 8 * c;
                row.addCatch(numberOf(file.u2(at)), numberOf(file.u2(at + 2)), numberOf(file.u2(at + 4)),
                        errorOf(file.u2(at + 6)));
            }
            return row;
        }

        private int tableRoom() {
            int room = 0;
            for (int o = 0; o < size; o += Math.max(1, lengthAt(o))) {
                decode(o);
                if (Ops.isSwitch(op)) {
                    int n = switchCount((int) arg);
                    room += 3 + (op == TABLE ? n : 2 * n);
                }
            }
            return Math.max(0, room);
        }

        private void addTo(Row row) {
            if (Ops.isJump(op)) {
                row.add(op, numberOf(arg));
                return;
            }
            if (Ops.isSwitch(op)) {
                addSwitch(row);
                return;
            }
            switch (op) {
                case RAW_PUSH_LONG: row.add(PUSH_LONG, arg); break;
                case RAW_POOL_INT: row.add(PUSH_INT, file.s4(file.entryAt((int) arg) + 1)); break;
                case PUSH_LONG: row.add(PUSH_LONG, longAt(file.entryAt((int) arg) + 1)); break;
                case GET_FIELD: case PUT_FIELD: row.add(op, memberOf((int) arg, TAG_FIELD)); break;
                case CALL: row.add(op, memberOf((int) arg, TAG_METHOD)); break;
                default: row.add(op, arg); break;
            }
        }

        private long longAt(int at) {
            return file.u4(at) << 32 | file.u4(at + 4);
        }

        private void addSwitch(Row row) {
            int q = (int) arg;
            int n = switchCount(q);
            row.add(op, row.tableCount);
            row.addToTable(n + 1);
            row.addToTable(op == TABLE ? s4(q + 4) : 0);
            for (int k = -1; k < n; k++) {
                row.addToTable(numberOf(switchTarget(q, k)));
            }
            for (int k = 0; op == LOOKUP && k < n; k++) {
                row.addToTable(s4(q + 8 + 8 * k));
            }
        }
    }

    /** Seeks the heights that can come to each instruction of a row, each spreading by itself. */
    private static final class Heights {
        /** A bit for each height that comes to an instruction, and for those that have not yet been spread. */
        private int[] come = new int[0];
        private int[] waiting = new int[0];
        private boolean[] wrong = new boolean[0];
        private Unit unit;
        private Row row;
        private int limit;
        private boolean changed;
        /** The most places that an instruction leaves, or that its handlers want. */
        int most;

        void seek(Unit newUnit, Row newRow, int newLimit) {
            unit = newUnit;
            row = newRow;
            limit = newLimit;
            most = 0;
            makeRoom(row.count);
            comeTo(0, 0);
            changed = true;
            for (int round = 0; changed && round < MANY; round++) {
                changed = false;
                for (int i = 0; i < row.count && i < waiting.length; i++) {
                    int heights = waiting[i];
                    waiting[i] = 0;
                    for (int h = 0; heights >>> h > 0 && h < 31; h++) {
                        if ((heights >> h & 1) != 0) {
                            spread(i, h);
                        }
                    }
                }
            }
        }

        private void makeRoom(int count) {
            if (come.length < count) {
                come = new int[2 * count];
                waiting = new int[2 * count];
                wrong = new boolean[2 * count];
            }
            Arrays.fill(come, 0);
            Arrays.fill(waiting, 0);
            for (int i = 0; i < wrong.length; i++) {
                wrong[i] = false;
            }
        }

        private void comeTo(int i, int h) {
            if (i < 0 || i >= row.count || i >= come.length || h < 0 || h > 30 || (come[i] >> h & 1) != 0) {
                return;
            }
            come[i] |= 1 << h;
            waiting[i] |= 1 << h;
            changed = true;
        }

        private void spread(int i, int h) {
            int need = Ops.placesOf(unit.takes(row, i));
            int left = h - need + unit.placesGiven(row, i);
            boolean caught = row.isCaught(i);
            boolean goesOn = Ops.goesOn(row.opAt(i));
            if (h < need || left > limit || caught && limit < 1 || goesOn && i + 1 >= row.count) {
                wrong[i] = true;
                return;
            }
            most = Math.max(most, Math.max(left, caught ? 1 : 0));
            if (goesOn) {
                comeTo(i + 1, left);
            }
            int targets = row.targetCount(i);
            for (int j = 0; j < targets; j++) {
                comeTo(row.targetAt(i, j), left);
            }
            for (int c = 0; caught && c < row.catchCount; c++) {
                if (row.catchHas(c, i)) {
                    comeTo(row.catchAt[c], 1);
                }
            }
        }

        boolean isWrong(int i) {
            return i >= 0 && i < wrong.length && (wrong[i] || Integer.bitCount(come[i]) > 1);
        }

        /** The height before an instruction, -1 if it is not come to. */
        int heightAt(int i) {
            return i < 0 || i >= come.length || come[i] == 0 ? -1 : Integer.numberOfTrailingZeros(come[i]);
        }
    }

    /** Checks the types of a file's methods by inference. */
    private static final class Checker {
        private static final int WIDTH = 2 * MOST_PLACES;
        private final Heights heights = new Heights();
        /** Before each instruction: the types of its locals, then of its stack. */
        private byte[] before = new byte[0];
        private boolean[] come = new boolean[0];
        private boolean[] waiting = new boolean[0];
        /** The types while an instruction is gone through, and the places on the stack. */
        private final byte[] now = new byte[WIDTH];
        private int top;
        private boolean bad;
        private boolean changed;
        private Unit unit;
        private Row row;

        /** The first instruction of a method that has a fault, -1 none; then its row keeps what was found. */
        int firstFault(Unit newUnit, Row newRow) {
            if (newRow == null) {
                return -1;
            }
            unit = newUnit;
            row = newRow;
            heights.seek(unit, row, row.maxStack);
            makeRoom(row.count);
            beginBody();
            changed = true;
            for (int round = 0; changed && round < MANY; round++) {
                changed = false;
                for (int i = 0; i < row.count; i++) {
                    if (waiting[i]) {
                        waiting[i] = false;
                        flowFrom(i);
                    }
                }
            }
            for (int i = 0; i < row.count; i++) {
                if (heights.isWrong(i) || hasBadTypes(i)) {
                    return i;
                }
            }
            keepTypes();
            return -1;
        }

        private void makeRoom(int count) {
            if (come.length < count) {
                before = new byte[WIDTH * 2 * count];
                come = new boolean[2 * count];
                waiting = new boolean[2 * count];
            }
            for (int i = 0; i < come.length; i++) {
                come[i] = false;
                waiting[i] = false;
            }
        }

        private void beginBody() {
            for (int k = 0; k < WIDTH; k++) {
                now[k] = NONE;
            }
            int kinds = unit.takesOfMethod(row.number);
            int n = Ops.kindCount(kinds);
            int k = 0;
            for (int j = 0; j < n; j++) {
                int kind = Ops.kindAt(kinds, j);
                setPlace(k, lowerType(kind));
                if (kind == KIND_LONG) {
                    setPlace(k + 1, HIGH);
                }
                k += kind == KIND_LONG ? 2 : 1;
            }
            top = 0;
            comeTo(0);
        }

        private void setPlace(int k, int type) {
            if (k >= 0 && k < WIDTH) {
                now[k] = (byte) type;
            }
        }

        private int placeAt(int k) {
            return k < 0 || k >= WIDTH ? NONE : now[k];
        }

        /** The type of a value's one place, or of the lower one of a long. */
        private static int lowerType(int kind) {
            switch (kind) {
                case KIND_INT: return INT;
                case KIND_LONG: return LOW;
                case KIND_INTS: return INTS;
                case KIND_NULL: return NULL;
                default: return NONE;
            }
        }

        /** What is in 'now' comes to an instruction. */
        private void comeTo(int i) {
            if (i < 0 || i >= row.count || heights.isWrong(i)) {
                return;
            }
            int base = i * WIDTH;
            boolean isNew = !come[i];
            for (int k = 0; k < MOST_PLACES + top && k < WIDTH; k++) {
                int type = isNew ? now[k] : join(before[base + k], now[k]);
                if (isNew || type != before[base + k]) {
                    before[base + k] = (byte) type;
                    waiting[i] = true;
                    changed = true;
                }
            }
            come[i] = true;
        }

        private static int join(int a, int b) {
            if (a == b || b == NULL && (a == INTS || a == ERROR)) {
                return a;
            }
            return a == NULL && (b == INTS || b == ERROR) ? b : NONE;
        }

        private void takeUp(int i) {
            top = Math.max(0, Math.min(heights.heightAt(i), MOST_PLACES));
            System.arraycopy(before, i * WIDTH, now, 0, WIDTH);
        }

        private void flowFrom(int i) {
            if (row.isCaught(i)) {
                takeUp(i);
                top = 1;
                setPlace(MOST_PLACES, ERROR);
                for (int c = 0; c < row.catchCount; c++) {
                    if (row.catchHas(c, i)) {
                        comeTo(row.catchAt[c]);
                    }
                }
            }
            takeUp(i);
            goThrough(i);
            if (Ops.goesOn(row.opAt(i))) {
                comeTo(i + 1);
            }
            int targets = row.targetCount(i);
            for (int j = 0; j < targets; j++) {
                comeTo(row.targetAt(i, j));
            }
        }

        private boolean hasBadTypes(int i) {
            if (!come[i]) {
                return false;
            }
            takeUp(i);
            bad = false;
            goThrough(i);
            return bad;
        }

        private void goThrough(int i) {
            int op = row.opAt(i);
            if (op >= POP && op <= SWAP) {
                shuffle(op);
            } else if (Ops.isLoad(op)) {
                load(op, row.localOf(i));
            } else if (Ops.isStore(op)) {
                store(op, row.localOf(i));
            } else if (op == GROW) {
                bad |= placeAt(row.localOf(i)) != INT;
            } else {
                int kinds = unit.takes(row, i);
                for (int rest = kinds; rest > 0; rest >>= 4) {
                    take(rest & 15);
                }
                give(unit.gives(row, i));
                bad |= op >= RETURN_INT && op <= RETURN && kinds != unit.givesOfMethod(row.number);
            }
        }

        private int pop() {
            if (top < 1 || top > MOST_PLACES) {
                return NONE;
            }
            top--;
            return now[MOST_PLACES + top];
        }

        private void push(int type) {
            if (top >= 0 && top < MOST_PLACES) {
                now[MOST_PLACES + top] = (byte) type;
                top++;
            }
        }

        private static boolean isReference(int type) {
            return type == INTS || type == ERROR || type == NULL;
        }

        private static boolean isOnePlace(int type) {
            return type == INT || type == INTS || type == ERROR || type == NULL;
        }

        /** Takes a value of a kind from the stack, and answers the type of its place. */
        private int take(int kind) {
            int type = pop();
            switch (kind) {
                case KIND_INT: bad |= type != INT; break;
                case KIND_LONG: bad |= type != HIGH | pop() != LOW; break;
                case KIND_INTS: bad |= type != INTS && type != NULL; break;
                case KIND_ERROR: bad |= type != ERROR && type != NULL; break;
                case KIND_REFERENCE: bad |= !isReference(type); break;
                default: bad |= !isOnePlace(type); break;
            }
            return type;
        }

        private void give(int kind) {
            if (kind != 0) {
                push(lowerType(kind));
            }
            if (kind == KIND_LONG) {
                push(HIGH);
            }
        }

        private void load(int op, int k) {
            int type = placeAt(k);
            if (op == LOAD_REFERENCE) {
                bad |= !isReference(type);
                push(isReference(type) ? type : NONE);
                return;
            }
            bad |= op == LOAD_INT ? type != INT : type != LOW || placeAt(k + 1) != HIGH;
            give(Ops.gives(op));
        }

        private void store(int op, int k) {
            int kind = Ops.takes(op);
            int type = take(kind);
            int behind = k + Ops.localWidth(op);
            if (k > 0 && placeAt(k - 1) == LOW) {
                setPlace(k - 1, NONE);
            }
            if (behind < MOST_PLACES && placeAt(behind) == HIGH) {
                setPlace(behind, NONE);
            }
            if (op == STORE_REFERENCE) {
                setPlace(k, isReference(type) ? type : NONE);
                return;
            }
            setPlace(k, lowerType(kind));
            if (op == STORE_LONG) {
                setPlace(k + 1, HIGH);
            }
        }

        /** Takes a place to be copied: NONE is copied where it can't be by itself. */
        private int takeCopy() {
            int type = take(KIND_ONE_PLACE);
            return isOnePlace(type) ? type : NONE;
        }

        private boolean hasLong() {
            return top >= 2 && placeAt(MOST_PLACES + top - 1) == HIGH && placeAt(MOST_PLACES + top - 2) == LOW;
        }

        private void shuffle(int op) {
            if ((op == POP_TWO || op == DUP_TWO) && hasLong()) {
                if (op == POP_TWO) {
                    take(KIND_LONG);
                } else {
                    give(KIND_LONG);
                }
                return;
            }
            int upper = takeCopy();
            int lower = op == POP || op == DUP ? NONE : takeCopy();
            switch (op) {
                case DUP: push(upper); push(upper); break;
                case DUP_UNDER: push(upper); push(lower); push(upper); break;
                case DUP_TWO: push(lower); push(upper); push(lower); push(upper); break;
                case SWAP: push(upper); push(lower); break;
                default: break;
            }
        }

        private void keepTypes() {
            row.heights = new byte[row.count];
            row.lowLocals = new long[row.count];
            row.highLocals = new long[row.count];
            for (int i = 0; i < row.count; i++) {
                row.heights[i] = (byte) heights.heightAt(i);
                for (int k = 0; come[i] && k < MOST_PLACES; k++) {
                    long type = before[i * WIDTH + k];
                    if (k < 16) {
                        row.lowLocals[i] |= type << 4 * k;
                    } else {
                        row.highLocals[i] |= type << 4 * (k - 16);
                    }
                }
            }
        }
    }

    /** Writes a file anew: its pool and what stands behind it grow side by side, method by method. */
    private static final class Writer {
        private final Bytes pool = new Bytes();
        private final Bytes rest = new Bytes();
        private final Bytes wanted = new Bytes();
        private final int[] entryAt = new int[MOST_POOL];
        private final int[] entryEnd = new int[MOST_POOL];
        private int poolCount;
        private boolean tooMany;
        private Unit unit;
        private int codeName;
        private int ownClass;
        /** The pool's numbers of the fields' names, types and entries, and of the methods' entries; 0 not yet. */
        private final int[] fieldName = new int[MOST_MEMBERS];
        private final int[] fieldType = new int[MOST_MEMBERS];
        private final int[] fieldEntry = new int[MOST_MEMBERS];
        private final int[] methodEntry = new int[MOST_MEMBERS];
        private final Heights heights = new Heights();
        private Row row;
        /** Of each instruction of the row: the pool's number that it needs, and where it begins. */
        private int[] needs = new int[0];
        private int[] offsets = new int[0];

        /** Begins a file with the fields of a unit and so many counters. */
        void begin(Unit newUnit, int counters) {
            unit = newUnit;
            pool.count = 0;
            rest.count = 0;
            poolCount = 1;
            tooMany = false;
            Arrays.fill(fieldEntry, 0);
            Arrays.fill(methodEntry, 0);
            codeName = textEntry("Code");
            ownClass = pointerEntry(TAG_CLASS, nameEntry(unit.className));
            int above = pointerEntry(TAG_CLASS, nameEntry(unit.aboveName));
            rest.put2(FILE_FLAGS);
            rest.put2(ownClass);
            rest.put2(above);
            rest.put2(0);
            int fields = unit.fieldCount + counters;
            rest.put2(fields);
            for (int k = 0; k < fields && k < MOST_MEMBERS; k++) {
                boolean isOld = k < unit.fieldName.length;
                fieldName[k] = isOld ? nameEntry(unit.fieldName[k]) : counterEntry(k - unit.fieldName.length);
                fieldType[k] = isOld ? nameEntry(unit.fieldType[k]) : textEntry("J");
                putMember(fieldName[k], fieldType[k], 0);
            }
            rest.put2(unit.methodCount);
        }

        private void putMember(int name, int type, int attributes) {
            rest.put2(MEMBER_FLAGS);
            rest.put2(name);
            rest.put2(type);
            rest.put2(attributes);
        }

        /** Whether the pool has room for all that is needed. */
        boolean fits() {
            return !tooMany;
        }

        void finish(Bytes out) {
            rest.put2(0);
            out.count = 0;
            for (int i = 0; i < MAGIC.length; i++) {
                out.put(MAGIC[i]);
            }
            out.put2(poolCount);
            out.putAll(pool);
            out.putAll(rest);
        }

        /** The number of the entry in 'wanted', which is put into the pool if it is not there. */
        private int entryOfWanted() {
            for (int k = 1; k < poolCount && k < entryAt.length; k++) {
                if (isWanted(k)) {
                    return k;
                }
            }
            int numbers = wanted.get(0) == TAG_LONG ? 2 : 1;
            if (poolCount + numbers > MOST_POOL) {
                tooMany = true;
                return 0;
            }
            entryAt[poolCount] = pool.count;
            pool.putAll(wanted);
            entryEnd[poolCount] = pool.count;
            poolCount += numbers;
            if (numbers == 2) {
                entryAt[poolCount - 1] = pool.count;
                entryEnd[poolCount - 1] = pool.count;
            }
            return poolCount - numbers;
        }

        private boolean isWanted(int k) {
            int start = entryAt[k];
            int length = entryEnd[k] - start;
            if (length != wanted.count || start < 0 || entryEnd[k] > pool.data.length) {
                return false;
            }
            for (int i = 0; i < length && i < wanted.data.length; i++) {
                if (pool.data[start + i] != wanted.data[i]) {
                    return false;
                }
            }
            return true;
        }

        private void want(int tag) {
            wanted.count = 0;
            wanted.put(tag);
        }

        private int textEntry(String text) {
            want(TAG_NAME);
            wanted.put2(text.length());
            for (int i = 0; i < text.length(); i++) {
                wanted.put(text.charAt(i));
            }
            return entryOfWanted();
        }

        private int nameEntry(int at) {
            want(TAG_NAME);
            int length = unitByte(at + 1) << 8 | unitByte(at + 2);
            for (int i = 1; i < 3 + length; i++) {
                wanted.put(unitByte(at + i));
            }
            return entryOfWanted();
        }

        private int unitByte(int at) {
            return at < 0 || at >= unit.data.length ? 0 : unit.data[at] & 255;
        }

        private int pointerEntry(int tag, int target) {
            want(tag);
            wanted.put2(target);
            return entryOfWanted();
        }

        private int pointersEntry(int tag, int first, int second) {
            want(tag);
            wanted.put2(first);
            wanted.put2(second);
            return entryOfWanted();
        }

        private int intEntry(int v) {
            want(TAG_INT);
            wanted.put4(v);
            return entryOfWanted();
        }

        private int longEntry(long v) {
            want(TAG_LONG);
            wanted.put4((int) (v >> 32));
            wanted.put4((int) v);
            return entryOfWanted();
        }

        private int counterEntry(int k) {
            want(TAG_NAME);
            wanted.put2(k < 10 ? 2 : 3);
            wanted.put('c');
            if (k >= 10) {
                wanted.put('0' + k / 10);
            }
            wanted.put('0' + k % 10);
            return entryOfWanted();
        }

        private int fieldEntryOf(int k) {
            if (k < 0 || k >= fieldEntry.length) {
                return 0;
            }
            if (fieldEntry[k] == 0) {
                int pair = pointersEntry(TAG_PAIR, fieldName[k], fieldType[k]);
                fieldEntry[k] = pointersEntry(TAG_FIELD, ownClass, pair);
            }
            return fieldEntry[k];
        }

        private int methodEntryOf(int m) {
            if (m < 0 || m >= methodEntry.length || m >= unit.methodName.length) {
                return 0;
            }
            if (methodEntry[m] == 0) {
                int name = nameEntry(unit.methodName[m]);
                int pair = pointersEntry(TAG_PAIR, name, nameEntry(unit.methodType[m]));
                methodEntry[m] = pointersEntry(TAG_METHOD, ownClass, pair);
            }
            return methodEntry[m];
        }

        /** Adds the unit's next method, with this row as its code. */
        void addMethod(Row newRow) {
            row = newRow;
            if (row == null || row.number < 0 || row.number >= unit.methodName.length) {
                return;
            }
            int name = nameEntry(unit.methodName[row.number]);
            putMember(name, nameEntry(unit.methodType[row.number]), 1);
            int size = layOut();
            heights.seek(unit, row, MOST_PLACES + COUNTER);
            rest.put2(codeName);
            rest.put4(12 + size + 8 * row.catchCount);
            rest.put2(heights.most);
            rest.put2(leastLocals());
            rest.put4(size);
            int start = rest.count;
            for (int i = 0; i < row.count; i++) {
                putInstruction(i, start);
            }
            rest.put2(row.catchCount);
            for (int c = 0; c < row.catchCount; c++) {
                rest.put2(offsetOf(row.catchFrom[c]));
                rest.put2(offsetOf(row.catchTo[c]));
                rest.put2(offsetOf(row.catchAt[c]));
                rest.put2(classOf(row.catchKind[c]));
            }
            rest.put2(0);
        }

        private int classOf(int kind) {
            return kind == ANY_ERROR ? 0 : pointerEntry(TAG_CLASS, textEntry(Ops.errorName(kind)));
        }

        private int leastLocals() {
            int least = Ops.placesOf(unit.takesOfMethod(row.number));
            for (int i = 0; i < row.count; i++) {
                if (Ops.usesLocal(row.opAt(i))) {
                    least = Math.max(least, row.localOf(i) + Ops.localWidth(row.opAt(i)));
                }
            }
            return least;
        }

        /** Finds what each instruction needs and where it begins; the code's length. */
        private int layOut() {
            if (offsets.length <= row.count) {
                offsets = new int[2 * row.count + 2];
                needs = new int[2 * row.count + 2];
            }
            int at = 0;
            for (int i = 0; i < row.count; i++) {
                offsets[i] = at;
                needs[i] = needOf(i);
                at += lengthOf(i, at);
            }
            offsets[row.count] = at;
            return at;
        }

        private int offsetOf(int i) {
            return i < 0 || i > row.count ? 0 : offsets[i];
        }

        private static boolean isByte(long v) {
            return v == (byte) v;
        }

        private int needOf(int i) {
            long arg = row.argAt(i);
            switch (row.opAt(i)) {
                case PUSH_INT: return arg == (short) arg ? 0 : intEntry((int) arg);
                case PUSH_LONG: return arg == 0 || arg == 1 ? 0 : longEntry(arg);
                case GET_FIELD: case PUT_FIELD: return fieldEntryOf((int) arg);
                case CALL: return methodEntryOf((int) arg);
                default: return 0;
            }
        }

        private int lengthOf(int i, int at) {
            int op = row.opAt(i);
            long arg = row.argAt(i);
            if (Ops.isLoad(op) || Ops.isStore(op)) {
                return arg < 4 ? 1 : 2;
            }
            if (Ops.isJump(op)) {
                return 3;
            }
            switch (op) {
                case PUSH_INT: return lengthOfPush(arg, needs[i]);
                case PUSH_LONG: return arg == 0 || arg == 1 ? 1 : 3;
                case GROW: return isByte(row.stepOf(i)) ? 3 : 6;
                case TABLE: return (at + 4 & ~3) - at + 8 + 4 * row.targetCount(i);
                case LOOKUP: return (at + 4 & ~3) - at + 8 * row.targetCount(i);
                case GET_FIELD: case PUT_FIELD: case CALL: return 3;
                case NEW_INTS: return 2;
                default: return 1;
            }
        }

        private static int lengthOfPush(long v, int need) {
            if (v >= -1 && v <= 5) {
                return 1;
            }
            if (isByte(v)) {
                return 2;
            }
            return v == (short) v || need > 255 ? 3 : 2;
        }

        private void putInstruction(int i, int start) {
            int op = row.opAt(i);
            long arg = row.argAt(i);
            if (Ops.isLoad(op) || Ops.isStore(op)) {
                putLocal(op, (int) arg);
            } else if (Ops.isJump(op)) {
                rest.put(op);
                rest.put2(offsetOf((int) arg) - offsetOf(i));
            } else if (Ops.isSwitch(op)) {
                putSwitch(i, start);
            } else if (op == PUSH_INT) {
                putInt((int) arg, needs[i]);
            } else if (op == PUSH_LONG) {
                putLong(arg, needs[i]);
            } else if (op == GROW) {
                putGrow(row.localOf(i), row.stepOf(i));
            } else {
                rest.put(op);
                if (op == GET_FIELD || op == PUT_FIELD || op == CALL) {
                    rest.put2(needs[i]);
                } else if (op == NEW_INTS) {
                    rest.put(10);
                }
            }
        }

        private void putLocal(int op, int k) {
            if (k > 3) {
                rest.put(op);
                rest.put(k);
                return;
            }
            switch (op) {
                case LOAD_INT: rest.put(26 + k); break;
                case LOAD_LONG: rest.put(30 + k); break;
                case LOAD_REFERENCE: rest.put(42 + k); break;
                case STORE_INT: rest.put(59 + k); break;
                case STORE_LONG: rest.put(63 + k); break;
                default: rest.put(75 + k); break;
            }
        }

        private void putInt(int v, int need) {
            if (v >= -1 && v <= 5) {
                rest.put(v + 3);
            } else if (isByte(v)) {
                rest.put(RAW_PUSH_BYTE);
                rest.put(v);
            } else if (v == (short) v) {
                rest.put(PUSH_INT);
                rest.put2(v);
            } else if (need < 256) {
                rest.put(RAW_POOL_BYTE);
                rest.put(need);
            } else {
                rest.put(RAW_POOL_INT);
                rest.put2(need);
            }
        }

        private void putLong(long v, int need) {
            if (v == 0 || v == 1) {
                rest.put(RAW_PUSH_LONG + (int) v);
            } else {
                rest.put(PUSH_LONG);
                rest.put2(need);
            }
        }

        private void putGrow(int k, int step) {
            if (isByte(step)) {
                rest.put(GROW);
                rest.put(k);
                rest.put(step);
            } else {
                rest.put(RAW_WIDE);
                rest.put(GROW);
                rest.put2(k);
                rest.put2(step);
            }
        }

        private void putSwitch(int i, int start) {
            int t = (int) row.argAt(i);
            int n = row.targetCount(i) - 1;
            boolean isTable = row.opAt(i) == TABLE;
            rest.put(row.opAt(i));
            for (int pad = 0; pad < 3 && (rest.count - start & 3) != 0; pad++) {
                rest.put(0);
            }
            rest.put4(offsetOf(row.targetAt(i, 0)) - offsetOf(i));
            if (isTable) {
                rest.put4(row.tableAt(t + 1));
                rest.put4(row.tableAt(t + 1) + n - 1);
            } else {
                rest.put4(n);
            }
            for (int k = 1; k <= n; k++) {
                if (!isTable) {
                    rest.put4(row.tableAt(t + 2 + n + k));
                }
                rest.put4(offsetOf(row.targetAt(i, k)) - offsetOf(i));
            }
        }
    }

    /**
     * The stage and what runs on it. A long stands in the lower one of its two places, the upper one is 0. A
     * reference is 0 for null, the number of an array, or below 0 for an error.
     */
    private static final class Machine {
        private Unit unit;
        private final long[] fields = new long[MOST_MEMBERS];
        private int[] heap = new int[0];
        private int heapUsed;
        /** Where each array begins in the heap; the next one's beginning is its end. */
        private int[] arrayAt = new int[8];
        private int arrays;
        private final long[] arguments = new long[MOST_PARAMETERS];
        int argumentCount;
        /** The methods that run in one another: locals, stacks, and of each its number, place and stack's height. */
        private long[] locals = new long[0];
        private long[] stack = new long[0];
        private final int[] frames = new int[3 * MOST_FRAMES];
        private int depth;
        private Row row;
        private int pc;
        private int top;
        /** How the run ended; -1 as long as it goes on. */
        private int outcome;
        long lastResult;
        int lastError = -1;
        int lastSteps;
        int strays;

        void setStage(Unit newUnit) {
            unit = newUnit;
            Arrays.fill(fields, 0);
            heapUsed = 0;
            arrays = 0;
        }

        int addArgument(long v) {
            if (argumentCount >= MOST_PARAMETERS) {
                return -1;
            }
            arguments[argumentCount] = v;
            argumentCount++;
            return argumentCount;
        }

        long fieldAt(int k) {
            return unit == null || k < 0 || k >= unit.fieldCount || k >= MOST_MEMBERS ? 0 : fields[k];
        }

        int lengthOf(int a) {
            return isArray(a) ? arrayStart(a + 1) - arrayStart(a) : -1;
        }

        int elementAt(int a, int i) {
            return i < 0 || i >= lengthOf(a) ? 0 : heapAt(arrayStart(a) + i);
        }

        private boolean isArray(long a) {
            return a >= 1 && a <= arrays;
        }

        private int arrayStart(int a) {
            if (a > arrays) {
                return heapUsed;
            }
            return a < 0 || a >= arrayAt.length ? 0 : arrayAt[a];
        }

        private int heapAt(int i) {
            if (i < 0 || i >= heapUsed || i >= heap.length) {
                strays++;
                return 0;
            }
            return heap[i];
        }

        /** Why a run can't begin, 0 if it can. */
        int refusal(int m, int fuel) {
            if (unit == null || unit.rowAt(m) == null) {
                return -1;
            }
            int kinds = unit.takesOfMethod(m);
            if (Ops.kindCount(kinds) != argumentCount) {
                return -2;
            }
            for (int k = 0; k < argumentCount; k++) {
                if (Ops.kindAt(kinds, k) == KIND_INTS && arguments[k] != 0 && !isArray(arguments[k])) {
                    return -2;
                }
            }
            return fuel < 0 || fuel > MOST_FUEL ? -3 : 0;
        }

        int play(int m, int fuel) {
            if (stack.length == 0) {
                stack = new long[MOST_FRAMES * MOST_PLACES];
                locals = new long[MOST_FRAMES * MOST_PLACES];
            }
            lastResult = 0;
            lastError = -1;
            lastSteps = 0;
            outcome = -1;
            depth = 0;
            openFrame(m);
            passArguments(unit.takesOfMethod(m));
            while (outcome < 0 && lastSteps < fuel) {
                lastSteps++;
                step();
            }
            return outcome < 0 ? NO_FUEL : outcome;
        }

        private void openFrame(int m) {
            row = unit.rowAt(m);
            pc = 0;
            top = 0;
            setFrame(0, m);
        }

        private void setFrame(int what, int v) {
            if (depth >= 0 && depth < MOST_FRAMES) {
                frames[3 * depth + what] = v;
            }
        }

        private int frameAt(int what) {
            return depth >= 0 && depth < MOST_FRAMES ? frames[3 * depth + what] : 0;
        }

        private void passArguments(int kinds) {
            int k = 0;
            for (int j = 0; j < argumentCount; j++) {
                int kind = Ops.kindAt(kinds, j);
                setLocal(k, kind == KIND_INT ? (int) arguments[j] : arguments[j]);
                k += kind == KIND_LONG ? 2 : 1;
            }
        }

        private void setLocal(int k, long v) {
            int at = depth * MOST_PLACES + k;
            if (k < 0 || k >= MOST_PLACES || at < 0 || at >= locals.length) {
                strays++;
                return;
            }
            locals[at] = v;
        }

        private long localAt(int k) {
            int at = depth * MOST_PLACES + k;
            if (k < 0 || k >= MOST_PLACES || at < 0 || at >= locals.length) {
                strays++;
                return 0;
            }
            return locals[at];
        }

        private void push(long v) {
            int at = depth * MOST_PLACES + top;
            if (top < 0 || top >= MOST_PLACES || at < 0 || at >= stack.length) {
                strays++;
                return;
            }
            stack[at] = v;
            top++;
        }

        private long pop() {
            int at = depth * MOST_PLACES + top - 1;
            if (top < 1 || top > MOST_PLACES || at < 0 || at >= stack.length) {
                strays++;
                return 0;
            }
            top--;
            return stack[at];
        }

        private void push(int kind, long v) {
            if (kind != 0) {
                push(v);
            }
            if (kind == KIND_LONG) {
                push(0);
            }
        }

        private long pop(int kind) {
            if (kind == KIND_LONG) {
                pop();
            }
            return kind == 0 ? 0 : pop();
        }

        private void step() {
            int op = row.opAt(pc);
            if (row.heightAt(pc) != top) {
                strays++;
            }
            if (Ops.isBinary(op)) {
                calculate(op);
            } else if (Ops.isUnary(op)) {
                push(Ops.gives(op), Ops.unary(op, pop(Ops.takes(op))));
                pc++;
            } else if (Ops.isJump(op)) {
                pc = isJumpTaken(op) ? (int) row.argAt(pc) : pc + 1;
            } else if (Ops.isSwitch(op)) {
                pc = row.targetAt(pc, switchChoice(op, (int) pop()));
            } else if (op >= POP && op <= SWAP) {
                shuffle(op);
                pc++;
            } else if (op >= RETURN_INT && op <= RETURN) {
                leave(op);
            } else if (op >= GET_FIELD || op == GET_ELEMENT || op == PUT_ELEMENT) {
                useStage(op);
            } else {
                move(op);
                pc++;
            }
        }

        private void calculate(int op) {
            int kinds = Ops.takes(op);
            long y = pop(kinds & 15);
            long x = pop(kinds >> 4);
            if (Ops.isDivision(op) && y == 0) {
                raise(DIVIDE_ERROR);
                return;
            }
            push(Ops.gives(op), Ops.binary(op, x, y));
            pc++;
        }

        private boolean isJumpTaken(int op) {
            if (op == GOTO) {
                return true;
            }
            long y = pop();
            switch (op) {
                case IF_NULL: return y == 0;
                case IF_NOT_NULL: return y != 0;
                case IF_SAME: return pop() == y;
                case IF_NOT_SAME: return pop() != y;
                default: break;
            }
            return op < IF_EQUAL ? Ops.isTaken(op, (int) y, 0) : Ops.isTaken(op, (int) pop(), (int) y);
        }

        /** Which target of the switch at pc a number means, 0 the default. */
        private int switchChoice(int op, int v) {
            int t = (int) row.argAt(pc);
            int n = row.targetCount(pc) - 1;
            if (op == TABLE) {
                long k = (long) v - row.tableAt(t + 1);
                return k < 0 || k >= n ? 0 : (int) k + 1;
            }
            for (int k = 1; k <= n; k++) {
                if (row.tableAt(t + 2 + n + k) == v) {
                    return k;
                }
            }
            return 0;
        }

        private void shuffle(int op) {
            long upper = pop();
            long lower = op == POP || op == DUP ? 0 : pop();
            switch (op) {
                case DUP: push(upper); push(upper); break;
                case DUP_UNDER: push(upper); push(lower); push(upper); break;
                case DUP_TWO: push(lower); push(upper); push(lower); push(upper); break;
                case SWAP: push(upper); push(lower); break;
                default: break;
            }
        }

        private void move(int op) {
            int k = row.localOf(pc);
            if (op == PUSH_INT || op == PUSH_LONG || op == PUSH_NULL) {
                push(Ops.gives(op), row.argAt(pc));
            } else if (Ops.isLoad(op)) {
                push(Ops.gives(op), localAt(k));
            } else if (Ops.isStore(op)) {
                setLocal(k, pop(Ops.takes(op)));
            } else if (op == GROW) {
                setLocal(k, (int) localAt(k) + row.stepOf(pc));
            } else if (op != NOP) {
                strays++;
            }
        }

        private void useStage(int op) {
            int k = (int) row.argAt(pc);
            switch (op) {
                case GET_FIELD: push(unit.kindOfField(k), fieldAt(k)); pc++; break;
                case PUT_FIELD: setField(k, pop(unit.kindOfField(k))); pc++; break;
                case CALL: enter(k); break;
                case THROW: throwIt(pop()); break;
                case NEW_INTS: makeArray((int) pop()); break;
                case LENGTH: tellLength(pop()); break;
                case GET_ELEMENT: case PUT_ELEMENT: useElement(op); break;
                default: strays++; pc++; break;
            }
        }

        private void setField(int k, long v) {
            if (k < 0 || k >= MOST_MEMBERS) {
                strays++;
                return;
            }
            fields[k] = v;
        }

        private void enter(int m) {
            if (depth + 1 >= MOST_FRAMES) {
                outcome = TOO_DEEP;
                return;
            }
            int places = Ops.placesOf(unit.takesOfMethod(m));
            int from = depth * MOST_PLACES + top - places;
            int to = (depth + 1) * MOST_PLACES;
            if (unit.rowAt(m) == null || places > top || to + places > locals.length || top > MOST_PLACES) {
                strays++;
                pc++;
                return;
            }
            System.arraycopy(stack, from, locals, to, places);
            setFrame(1, pc);
            setFrame(2, top - places);
            depth++;
            openFrame(m);
        }

        private void leave(int op) {
            int kind = Ops.takes(op);
            long v = pop(kind);
            if (depth == 0) {
                outcome = RETURNED;
                lastResult = v;
                return;
            }
            closeFrame();
            push(kind, v);
            pc++;
        }

        /** Goes back to the method that called, at its call. */
        private void closeFrame() {
            depth = Math.max(0, depth - 1);
            row = unit.rowAt(frameAt(0));
            pc = frameAt(1);
            top = frameAt(2);
        }

        private void throwIt(long error) {
            raise(error < 0 && error >= -1 - SIZE_ERROR ? (int) (-1 - error) : NULL_ERROR);
        }

        private void raise(int kind) {
            for (int frames = depth; frames >= 0; frames--) {
                int handler = handlerOf(kind);
                if (handler >= 0) {
                    pc = handler;
                    top = 0;
                    push(-1 - kind);
                    return;
                }
                if (frames > 0) {
                    closeFrame();
                }
            }
            outcome = FAILED;
            lastError = kind;
        }

        private int handlerOf(int kind) {
            for (int c = 0; c < row.catchCount; c++) {
                if (row.catchHas(c, pc) && (row.catchKind[c] == kind || row.catchKind[c] == ANY_ERROR)) {
                    return row.catchAt[c];
                }
            }
            return -1;
        }

        private void makeArray(int length) {
            if (length < 0) {
                raise(SIZE_ERROR);
                return;
            }
            if (arrays >= MOST_ARRAYS || length > MOST_ELEMENTS - heapUsed) {
                outcome = TOO_MUCH;
                return;
            }
            arrays++;
            if (arrays >= arrayAt.length) {
                arrayAt = Arrays.copyOf(arrayAt, 2 * arrayAt.length);
            }
            if (heapUsed + length > heap.length) {
                heap = Arrays.copyOf(heap, Math.min(MOST_ELEMENTS, 2 * (heapUsed + length)));
            }
            arrayAt[arrays] = heapUsed;
            for (int i = heapUsed; i < heapUsed + length && i < heap.length; i++) {
                heap[i] = 0;
            }
            heapUsed += length;
            push(arrays);
            pc++;
        }

        private void tellLength(long a) {
            if (a == 0) {
                raise(NULL_ERROR);
                return;
            }
            push(lengthOf((int) a));
            pc++;
        }

        private void useElement(int op) {
            int v = op == PUT_ELEMENT ? (int) pop() : 0;
            int i = (int) pop();
            int a = (int) pop();
            if (a == 0) {
                raise(NULL_ERROR);
                return;
            }
            if (i < 0 || i >= lengthOf(a)) {
                raise(INDEX_ERROR);
                return;
            }
            int at = arrayStart(a) + i;
            if (op == GET_ELEMENT) {
                push(heapAt(at));
            } else if (at >= 0 && at < heap.length) {
                heap[at] = v;
            }
            pc++;
        }
    }

    /** The blocks of a row, their edges, dominators and loops. */
    private static final class Graph {
        private Row row;
        int count;
        private int[] start = new int[0];
        private int[] blockOf = new int[0];
        /** The edges of block b stand from edgeAt[b] to edgeAt[b + 1] in edges, those to it likewise in backs. */
        private int[] edgeAt = new int[0];
        private int[] edges = new int[16];
        private int[] backAt = new int[0];
        private int[] backs = new int[0];
        private boolean[] reached = new boolean[0];
        /** Of each block a bit for each block that dominates it, in so many words. */
        private long[] dominators = new long[0];
        private int words;
        private int[] dominator = new int[0];
        private int[] latches = new int[0];
        private int[] depth = new int[0];
        private int[] seen = new int[0];
        private int[] waiting = new int[0];

        void draw(Row newRow) {
            if (newRow == null || newRow == row) {
                return;
            }
            row = newRow;
            findBlocks();
            makeRoom();
            findEdges();
            findBacks();
            findReached();
            findDominators();
            findLoops();
        }

        int tell(int b, int what) {
            if (b < 0 || b >= count) {
                return -1;
            }
            switch (what) {
                case 0: return start[b];
                case 1: return reached[b] ? 1 : 0;
                case 2: return dominator[b];
                case 3: return latches[b] > 0 ? 1 : 0;
                case 4: return depth[b];
                case 5: return edgeAt[b + 1] - edgeAt[b];
                default: return -1;
            }
        }

        boolean hasEdge(int a, int b) {
            if (a < 0 || a >= count) {
                return false;
            }
            for (int k = edgeAt[a]; k < edgeAt[a + 1]; k++) {
                if (edges[k] == b) {
                    return true;
                }
            }
            return false;
        }

        boolean isReached(int b) {
            return b >= 0 && b < count && reached[b];
        }

        int reachedCount() {
            int n = 0;
            for (int b = 0; b < count; b++) {
                n += reached[b] ? 1 : 0;
            }
            return n;
        }

        /** The block that begins at an instruction, -1 none. */
        int blockAt(int i) {
            if (i < 0 || i >= blockOf.length || i >= row.count) {
                return -1;
            }
            int b = blockOf[i];
            return b >= 0 && b < count && start[b] == i ? b : -1;
        }

        private void findBlocks() {
            if (blockOf.length < row.count) {
                blockOf = new int[2 * row.count];
                start = new int[2 * row.count];
            }
            Arrays.fill(blockOf, 0);
            begin(0);
            for (int i = 0; i < row.count; i++) {
                int targets = row.targetCount(i);
                for (int j = 0; j < targets; j++) {
                    begin(row.targetAt(i, j));
                }
                if (targets > 0 || !Ops.goesOn(row.opAt(i))) {
                    begin(i + 1);
                }
            }
            for (int c = 0; c < row.catchCount; c++) {
                begin(row.catchFrom[c]);
                begin(row.catchTo[c]);
                begin(row.catchAt[c]);
            }
            count = 0;
            for (int i = 0; i < row.count; i++) {
                if (blockOf[i] != 0) {
                    start[count] = i;
                    count++;
                }
                blockOf[i] = count - 1;
            }
        }

        private void begin(int i) {
            if (i >= 0 && i < row.count) {
                blockOf[i] = 1;
            }
        }

        private void makeRoom() {
            if (depth.length < count) {
                int room = 2 * count;
                edgeAt = new int[room + 1];
                backAt = new int[room + 1];
                reached = new boolean[room];
                dominator = new int[room];
                latches = new int[room];
                depth = new int[room];
                seen = new int[room];
                waiting = new int[room];
            }
            words = (count + 63) / 64;
            if (dominators.length < count * words) {
                dominators = new long[2 * count * words];
            }
        }

        private int lastOf(int b) {
            return (b + 1 < count ? start[b + 1] : row.count) - 1;
        }

        private void findEdges() {
            Arrays.fill(seen, -1);
            int n = 0;
            for (int b = 0; b < count; b++) {
                edgeAt[b] = n;
                int last = lastOf(b);
                if (Ops.goesOn(row.opAt(last))) {
                    n = addEdge(b, last + 1, n);
                }
                int targets = row.targetCount(last);
                for (int j = 0; j < targets; j++) {
                    n = addEdge(b, row.targetAt(last, j), n);
                }
                for (int c = 0; c < row.catchCount; c++) {
                    if (row.catchHas(c, last)) {
                        n = addEdge(b, row.catchAt[c], n);
                    }
                }
            }
            edgeAt[count] = n;
        }

        /** Adds an edge to the block of instruction i, if there is one that b has not yet; how many edges there are. */
        private int addEdge(int b, int i, int n) {
            if (i < 0 || i >= row.count || seen[blockOf[i]] == b) {
                return n;
            }
            if (n >= edges.length) {
                edges = Arrays.copyOf(edges, 2 * edges.length);
            }
            seen[blockOf[i]] = b;
            edges[n] = blockOf[i];
            return n + 1;
        }

        private void findBacks() {
            int n = edgeAt[count];
            if (backs.length < n) {
                backs = new int[edges.length];
            }
            Arrays.fill(backAt, 0);
            for (int k = 0; k < n; k++) {
                backAt[edges[k] + 1]++;
            }
            for (int b = 0; b < count; b++) {
                backAt[b + 1] += backAt[b];
            }
            System.arraycopy(backAt, 0, seen, 0, count);
            for (int b = 0; b < count; b++) {
                for (int k = edgeAt[b]; k < edgeAt[b + 1]; k++) {
                    int at = seen[edges[k]];
                    backs[at] = b;
                    seen[edges[k]]++;
                }
            }
        }

        private void findReached() {
            for (int b = 0; b < count; b++) {
                reached[b] = b == 0;
            }
            waiting[0] = 0;
            int n = 1;
            for (int turns = 0; n > 0 && turns < count; turns++) {
                n--;
                int b = waiting[n];
                for (int k = edgeAt[b]; k < edgeAt[b + 1]; k++) {
                    if (!reached[edges[k]]) {
                        reached[edges[k]] = true;
                        waiting[n] = edges[k];
                        n++;
                    }
                }
            }
        }

        private boolean dominates(int b, int c) {
            return (dominators[c * words + (b >> 6)] >>> (b & 63) & 1) != 0;
        }

        private void findDominators() {
            Arrays.fill(dominators, -1);
            for (int w = 0; w < words; w++) {
                dominators[w] = w == 0 ? 1 : 0;
            }
            boolean changed = true;
            for (int round = 0; changed && round < MANY; round++) {
                changed = false;
                for (int b = 0; b < count; b++) {
                    for (int k = edgeAt[b]; reached[b] && k < edgeAt[b + 1]; k++) {
                        changed |= narrow(edges[k], b);
                    }
                }
            }
            for (int c = 0; c < count; c++) {
                dominator[c] = reached[c] ? nearestDominator(c) : -1;
            }
        }

        /** Only what dominates b, and s itself, can dominate s, to which b has an edge. */
        private boolean narrow(int s, int b) {
            boolean changed = false;
            for (int w = 0; w < words; w++) {
                long own = w == s >> 6 ? 1L << (s & 63) : 0;
                long narrower = dominators[s * words + w] & (dominators[b * words + w] | own);
                changed |= narrower != dominators[s * words + w];
                dominators[s * words + w] = narrower;
            }
            return changed;
        }

        private int dominatorCount(int c) {
            int n = 0;
            for (int w = 0; w < words; w++) {
                n += Long.bitCount(dominators[c * words + w]);
            }
            return n;
        }

        /** Dominators of a block dominate one another in a row: the nearest has just one less than the block. */
        private int nearestDominator(int c) {
            int n = dominatorCount(c) - 1;
            for (int b = 0; b < count; b++) {
                if (b != c && dominates(b, c) && dominatorCount(b) == n) {
                    return b;
                }
            }
            return -1;
        }

        private void findLoops() {
            Arrays.fill(depth, 0);
            Arrays.fill(seen, -1);
            for (int h = 0; h < count; h++) {
                latches[h] = 0;
                for (int k = backAt[h]; reached[h] && k < backAt[h + 1]; k++) {
                    if (reached[backs[k]] && dominates(h, backs[k])) {
                        latches[h]++;
                    }
                }
                if (latches[h] > 0) {
                    addLoop(h);
                }
            }
        }

        private void addLoop(int h) {
            seen[h] = h;
            depth[h]++;
            int n = 0;
            for (int k = backAt[h]; k < backAt[h + 1]; k++) {
                if (reached[backs[k]] && dominates(h, backs[k])) {
                    n = addToLoop(h, backs[k], n);
                }
            }
            for (int turns = 0; n > 0 && turns < count; turns++) {
                n--;
                int b = waiting[n];
                for (int k = backAt[b]; k < backAt[b + 1]; k++) {
                    n = addToLoop(h, backs[k], n);
                }
            }
        }

        private int addToLoop(int h, int b, int n) {
            if (!reached[b] || seen[b] == h || n >= waiting.length) {
                return n;
            }
            seen[b] = h;
            depth[b]++;
            waiting[n] = b;
            return n + 1;
        }
    }

    /** Works on a copy of a method's row: makes it better by rules, or puts counters into it. */
    private static final class Smith {
        private static final int ROOM = MOST_CODE + COUNTER * MOST_MEMBERS;
        Row row = new Row(0, 0, 0);
        private final int[] applied = new int[LAST_RULE + 1];
        /** Whether a jump or a handler points to an instruction; whether it is reached; its live locals, a bit each. */
        private boolean[] marked = new boolean[0];
        private boolean[] reached = new boolean[0];
        private int[] live = new int[0];
        /** Where the instructions of the old row stand when counters are put in. */
        private int[] newPlace = new int[0];

        void forgetApplied() {
            Arrays.fill(applied, 0);
        }

        int appliedAt(int r) {
            return r < 0 || r >= applied.length ? 0 : applied[r];
        }

        private void makeRoom(Row source) {
            if (row.op.length < ROOM) {
                row = new Row(ROOM, MOST_CODE, MOST_CATCHES);
                marked = new boolean[ROOM + 1];
                reached = new boolean[ROOM + 1];
                live = new int[ROOM + 1];
                newPlace = new int[ROOM + 1];
            }
            row.number = source.number;
        }

        void putCounters(Row source, Graph graph, int firstField) {
            makeRoom(source);
            row.count = 0;
            int field = firstField;
            for (int i = 0; i < source.count && i < newPlace.length; i++) {
                newPlace[i] = row.count;
                if (graph.isReached(graph.blockAt(i))) {
                    row.add(GET_FIELD, field);
                    row.add(PUSH_LONG, 1);
                    row.add(ADD_LONG, 0);
                    row.add(PUT_FIELD, field);
                    field++;
                }
                row.add(source.opAt(i), source.argAt(i));
            }
            newPlace[Math.min(source.count, newPlace.length - 1)] = row.count;
            row.tableCount = 0;
            for (int t = 0; t < source.tableCount; t++) {
                row.addToTable(source.table[t]);
            }
            for (int i = 0; i < row.count; i++) {
                int targets = row.targetCount(i);
                for (int j = 0; j < targets; j++) {
                    row.setTarget(i, j, placeOf(row.targetAt(i, j)));
                }
            }
            row.catchCount = 0;
            for (int c = 0; c < source.catchCount; c++) {
                row.addCatch(placeOf(source.catchFrom[c]), placeOf(source.catchTo[c]), placeOf(source.catchAt[c]),
                        source.catchKind[c]);
            }
        }

        private int placeOf(int i) {
            return i < 0 || i >= newPlace.length ? 0 : newPlace[i];
        }

        void makeBetter(Row source, int rules) {
            makeRoom(source);
            row.copyFrom(source);
            boolean changed = true;
            for (int round = 0; changed && round < MOST_ROUNDS; round++) {
                changed = false;
                for (int r = 1; r <= LAST_RULE; r++) {
                    if ((rules >> r - 1 & 1) != 0) {
                        changed |= r == 1 ? dropUnreached() : goThrough(r);
                    }
                }
            }
        }

        private boolean goThrough(int r) {
            boolean changed = false;
            boolean isStale = true;
            int i = 0;
            for (int looks = 0; i < row.count && looks < MANY; looks++) {
                if (isStale && (r == 10 || r == 11)) {
                    findLive();
                }
                if (isStale && r >= 5 && r <= 10) {
                    findMarked();
                }
                isStale = isDone(r, i);
                if (isStale) {
                    applied[r]++;
                    changed = true;
                } else {
                    i++;
                }
            }
            return changed;
        }

        /** Whether rule r did something at place i. */
        private boolean isDone(int r, int i) {
            if (r == 2) {
                return isRedirected(i);
            }
            if (i >= row.count - 1) {
                return false;
            }
            switch (r) {
                case 3: return row.opAt(i) == GOTO && row.argAt(i) == i + 1 && isDropped(i, 1);
                case 4: return row.opAt(i) == NOP && isDropped(i, 1);
                case 5: return isFolded(i);
                case 6: return isUnaryFolded(i);
                case 7: return isJumpDecided(i);
                case 8: return isWindow(i, 2) && isNeutral(i) && isDropped(i, 2);
                case 9: return isWindow(i, 2) && isPopped(i) && isDropped(i, 2);
                case 10: return isWindow(i, 2) && isPassedOn(i) && isDropped(i, 2);
                default: return isDeadStoreDone(i);
            }
        }

        private boolean isDropped(int i, int n) {
            row.remove(i, n);
            return true;
        }

        private boolean dropUnreached() {
            findReached();
            boolean changed = false;
            int i = 0;
            int old = row.count;
            for (int k = 0; k < old; k++) {
                if (reached[k]) {
                    i++;
                } else {
                    row.remove(i, 1);
                    applied[1]++;
                    changed = true;
                }
            }
            return changed;
        }

        private void findReached() {
            for (int i = 0; i < reached.length; i++) {
                reached[i] = i == 0;
            }
            boolean changed = true;
            for (int round = 0; changed && round < MANY; round++) {
                changed = false;
                for (int i = 0; i < row.count; i++) {
                    if (reached[i]) {
                        changed |= reachFrom(i);
                    }
                }
            }
        }

        private boolean reachFrom(int i) {
            boolean changed = Ops.goesOn(row.opAt(i)) && isNewlyReached(i + 1);
            int targets = row.targetCount(i);
            for (int j = 0; j < targets; j++) {
                changed |= isNewlyReached(row.targetAt(i, j));
            }
            for (int c = 0; c < row.catchCount; c++) {
                changed |= row.catchHas(c, i) && isNewlyReached(row.catchAt[c]);
            }
            return changed;
        }

        private boolean isNewlyReached(int i) {
            if (i < 0 || i >= row.count || reached[i]) {
                return false;
            }
            reached[i] = true;
            return true;
        }

        private boolean isRedirected(int i) {
            int targets = row.targetCount(i);
            for (int j = 0; j < targets; j++) {
                int goal = row.targetAt(i, j);
                for (int steps = 0; row.opAt(goal) == GOTO && steps <= row.count; steps++) {
                    goal = row.targetAt(goal, 0);
                }
                if (goal != row.targetAt(i, j) && row.opAt(goal) != GOTO) {
                    row.setTarget(i, j, goal);
                    return true;
                }
            }
            return false;
        }

        private void findMarked() {
            for (int i = 0; i < marked.length; i++) {
                marked[i] = false;
            }
            for (int i = 0; i < row.count; i++) {
                int targets = row.targetCount(i);
                for (int j = 0; j < targets; j++) {
                    mark(row.targetAt(i, j));
                }
            }
            for (int c = 0; c < row.catchCount; c++) {
                mark(row.catchFrom[c]);
                mark(row.catchTo[c]);
                mark(row.catchAt[c]);
            }
        }

        private void mark(int i) {
            if (i >= 0 && i < marked.length) {
                marked[i] = true;
            }
        }

        /** Whether n instructions from i on are a window: the last of the row is in none. */
        private boolean isWindow(int i, int n) {
            if (i < 0 || i + n >= row.count) {
                return false;
            }
            return !marked[i + 1] && (n < 3 || !marked[i + 2]);
        }

        /** The kind of number that an instruction pushes, 0 if it is no such push. */
        private int pushKind(int i) {
            int op = row.opAt(i);
            return op == PUSH_INT ? KIND_INT : op == PUSH_LONG ? KIND_LONG : 0;
        }

        private void putPush(int i, int kind, long v) {
            row.set(i, kind == KIND_LONG ? PUSH_LONG : PUSH_INT, v);
        }

        private boolean isFolded(int i) {
            int op = row.opAt(i + 2);
            if (!Ops.isBinary(op) || pushKind(i) == 0 || pushKind(i + 1) == 0 || !isWindow(i, 3)
                    || Ops.takes(op) != (pushKind(i) << 4 | pushKind(i + 1))
                    || Ops.isDivision(op) && row.argAt(i + 1) == 0) {
                return false;
            }
            putPush(i, Ops.gives(op), Ops.binary(op, row.argAt(i), row.argAt(i + 1)));
            row.remove(i + 1, 2);
            return true;
        }

        private boolean isUnaryFolded(int i) {
            int op = row.opAt(i + 1);
            if (!Ops.isUnary(op) || pushKind(i) != Ops.takes(op) || !isWindow(i, 2)) {
                return false;
            }
            putPush(i, Ops.gives(op), Ops.unary(op, row.argAt(i)));
            row.remove(i + 1, 1);
            return true;
        }

        private boolean isJumpDecided(int i) {
            if (pushKind(i) != KIND_INT) {
                return false;
            }
            int n = pushKind(i + 1) == KIND_INT ? 3 : 2;
            int op = row.opAt(i + n - 1);
            int first = n == 3 ? IF_EQUAL : IF_ZERO;
            if (op < first || op >= first + 6 || !isWindow(i, n)) {
                return false;
            }
            if (Ops.isTaken(op, (int) row.argAt(i), n == 3 ? (int) row.argAt(i + 1) : 0)) {
                row.set(i, GOTO, row.argAt(i + n - 1));
                row.remove(i + 1, n - 1);
            } else {
                row.remove(i, n);
            }
            return true;
        }

        private boolean isNeutral(int i) {
            int op = row.opAt(i + 1);
            int kind = pushKind(i);
            if (kind == 0 || !Ops.isBinary(op) || kind != (Ops.takes(op) & 15)) {
                return false;
            }
            switch (op) {
                case ADD_INT: case ADD_LONG: case 100: case 101: case 128: case 129: case 130: case 131:
                    return row.argAt(i) == 0;
                case 104: case 105: case 108: case 109:
                    return row.argAt(i) == 1;
                case 126: case 127:
                    return row.argAt(i) == -1;
                default:
                    return Ops.isShift(op) && row.argAt(i) == 0;
            }
        }

        private boolean isPopped(int i) {
            int op = row.opAt(i);
            if (pushKind(i) == 0 && op != PUSH_NULL && !Ops.isLoad(op)) {
                return false;
            }
            return row.opAt(i + 1) == (Ops.gives(op) == KIND_LONG ? POP_TWO : POP);
        }

        private int localBits(int i) {
            return (Ops.localWidth(row.opAt(i)) == 2 ? 3 : 1) << row.localOf(i);
        }

        private boolean isPassedOn(int i) {
            int store = row.opAt(i);
            int load = row.opAt(i + 1);
            boolean pair = store == STORE_INT && load == LOAD_INT || store == STORE_LONG && load == LOAD_LONG
                    || store == STORE_REFERENCE && load == LOAD_REFERENCE;
            return pair && row.localOf(i) == row.localOf(i + 1) && (liveBehind(i + 1) & localBits(i)) == 0;
        }

        private boolean isDeadStoreDone(int i) {
            int op = row.opAt(i);
            if (op != GROW && !Ops.isStore(op) || (liveBehind(i) & localBits(i)) != 0) {
                return false;
            }
            if (op == GROW) {
                row.remove(i, 1);
            } else {
                row.set(i, op == STORE_LONG ? POP_TWO : POP, 0);
            }
            return true;
        }

        private void findLive() {
            Arrays.fill(live, 0);
            boolean changed = true;
            for (int round = 0; changed && round < MANY; round++) {
                changed = false;
                for (int i = row.count - 1; i >= 0; i--) {
                    int bits = liveBefore(i);
                    changed |= bits != live[i];
                    live[i] = bits;
                }
            }
        }

        private int liveBefore(int i) {
            int op = row.opAt(i);
            int bits = liveBehind(i);
            if (Ops.isStore(op)) {
                bits &= ~localBits(i);
            } else if (Ops.usesLocal(op)) {
                bits |= localBits(i);
            }
            for (int c = 0; c < row.catchCount; c++) {
                if (row.catchHas(c, i)) {
                    bits |= liveAt(row.catchAt[c]);
                }
            }
            return bits;
        }

        private int liveBehind(int i) {
            int bits = Ops.goesOn(row.opAt(i)) ? liveAt(i + 1) : 0;
            int targets = row.targetCount(i);
            for (int j = 0; j < targets; j++) {
                bits |= liveAt(row.targetAt(i, j));
            }
            return bits;
        }

        private int liveAt(int i) {
            return i < 0 || i >= row.count ? 0 : live[i];
        }
    }
}
