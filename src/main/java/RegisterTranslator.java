import java.util.Arrays;

/**
 * Takes methods in a code for a stack machine, verifies them, translates them into a code for a
 * machine with registers, written in units of 16 bits, and runs either form.
 */
public final class RegisterTranslator {
    public static final int BAD = -1;
    public static final int FULL = -2;
    public static final int MALFORMED = -3;
    public static final int REFUSED = -4;

    private static final int NONE = -1;
    private static final int MOST_BYTES = 40;
    private static final int MOST_METHODS = 6;
    private static final int MOST_PARAMETERS = 3;
    private static final int MOST_LOCALS = 6;
    private static final int MOST_STACKED = 8;
    private static final int MOST_STEPS = 1000;
    private static final int MOST_RUNNING = 8;

    private final int[] draft;
    private int drafted;
    /** All six are made once and filled anew; only the first methodCount of them are there. */
    private final Method[] table;
    private int methodCount;
    private int faultPlace;
    private final int[] given;
    private final Verifier verifier;
    private final Translator translator;
    private final Heap heap;
    private final Machine stackMachine;
    private final Machine registerMachine;
    /** The machine of the latest run, null when there was none. */
    private Machine latest;

    public RegisterTranslator() {
        draft = new int[MOST_BYTES];
        drafted = 0;
        table = new Method[MOST_METHODS];
        for (int k = 0; k < MOST_METHODS; k++) {
            table[k] = new Method();
        }
        methodCount = 0;
        faultPlace = NONE;
        given = new int[MOST_PARAMETERS];
        verifier = new Verifier(table);
        translator = new Translator(table);
        heap = new Heap();
        Frame[] frames = new Frame[MOST_RUNNING];
        for (int k = 0; k < MOST_RUNNING; k++) {
            frames[k] = new Frame(table[0]);
        }
        stackMachine = new StackMachine(table, frames, heap);
        registerMachine = new RegisterMachine(table, frames, heap);
        latest = null;
    }

    public boolean type(long bytes, int n) {
        if (n < 1 || n > 8 || drafted + n > MOST_BYTES) {
            return false;
        }
        for (int k = n - 1; k >= 0; k--) {
            draft[drafted] = (int) (bytes >>> (8 * k)) & 0xFF;
            drafted++;
        }
        return true;
    }

    public int define(int parameters, int locals) {
        int length = drafted;
        drafted = 0;
        faultPlace = NONE;
        if (parameters < 0 || parameters > MOST_PARAMETERS) {
            return BAD;
        }
        if (locals < parameters || locals > MOST_LOCALS) {
            return BAD;
        }
        if (methodCount >= MOST_METHODS) {
            return FULL;
        }
        Method made = table[methodCount];
        made.fill(draft, length, parameters, locals);
        faultPlace = Checker.malformedPlace(made, methodCount);
        if (faultPlace != NONE) {
            return MALFORMED;
        }
        faultPlace = verifier.refusedPlace(made);
        if (faultPlace != NONE) {
            return REFUSED;
        }
        translator.translate(made);
        methodCount++;
        return methodCount - 1;
    }

    public int fault() {
        return faultPlace;
    }

    public void reset() {
        methodCount = 0;
        drafted = 0;
    }

    public int methods() {
        return methodCount;
    }

    public int depth(int method, int place) {
        return isReached(method, place) ? table[method].depths[place] : NONE;
    }

    public int state(int method, int place, int slot) {
        if (!isReached(method, place) || slot < 0 || slot >= Kinds.SLOTS) {
            return Kinds.NOTHING;
        }
        return Kinds.kindIn(table[method].kinds[place], slot);
    }

    public int first(int method, int place) {
        return isReached(method, place) ? table[method].firsts[place] : NONE;
    }

    public int units(int method) {
        return isThere(method) ? table[method].unitCount : NONE;
    }

    public int unit(int method, int k) {
        if (!isThere(method) || k < 0 || k >= table[method].unitCount) {
            return NONE;
        }
        return table[method].unitRow[k];
    }

    public void arguments(int a, int b, int c) {
        given[0] = a;
        given[1] = b;
        given[2] = c;
    }

    public int run(boolean registers, int method, int budget) {
        if (!isThere(method) || budget < 0 || budget > MOST_STEPS) {
            return BAD;
        }
        latest = registers ? registerMachine : stackMachine;
        return latest.perform(method, given, budget);
    }

    public int value() {
        return latest == null ? 0 : latest.returned;
    }

    public int steps() {
        return latest == null ? 0 : latest.done;
    }

    public int at() {
        return latest == null ? NONE : latest.endPlace;
    }

    public int running() {
        return latest == null ? NONE : latest.endMethod;
    }

    public int cell(int n, int k) {
        if (k == -1) {
            return heap.sizeOf(n);
        }
        return heap.has(n, k) ? heap.read(n, k) : 0;
    }

    private boolean isThere(int method) {
        return method >= 0 && method < methodCount;
    }

    private boolean isReached(int method, int place) {
        return isThere(method) && table[method].isReached(place);
    }

    /** The operations of stack code. */
    private static final class Op {
        static final int CONST = 0;
        static final int LOAD = 1;
        static final int STORE = 2;
        static final int ADD = 3;
        static final int SUB = 4;
        static final int MUL = 5;
        static final int DIV = 6;
        static final int REM = 7;
        static final int DUP = 8;
        static final int POP = 9;
        static final int SWAP = 10;
        static final int GOTO = 11;
        static final int IFZERO = 12;
        static final int IFNEG = 13;
        static final int IFLESS = 14;
        static final int NEW = 15;
        static final int GET = 16;
        static final int SET = 17;
        static final int LENGTH = 18;
        static final int CALL = 19;
        static final int RETURN = 20;
        static final int INC = 21;

        /** How many bytes each operation takes, its own with them. */
        private static final int[] SIZES = {
            2, 2, 2, 1, 1, 1, 1, 1, 1, 1, 1, 2, 2, 2, 2, 1, 1, 1, 1, 2, 1, 3
        };

        static boolean exists(int operation) {
            return operation >= 0 && operation < SIZES.length;
        }

        static int sizeOf(int operation) {
            return exists(operation) ? SIZES[operation] : 1;
        }

        static boolean isArithmetic(int operation) {
            return operation >= ADD && operation <= REM;
        }

        static boolean hasTarget(int operation) {
            return operation >= GOTO && operation <= IFLESS;
        }

        static boolean isOfArrays(int operation) {
            return operation >= NEW && operation <= LENGTH;
        }

        static boolean hasLocal(int operation) {
            return operation == LOAD || operation == STORE || operation == INC;
        }

        static boolean goesOnBehind(int operation) {
            return operation != GOTO && operation != RETURN;
        }
    }

    /**
     * A state in one int, two bits a slot, so that a method's states are one short row: slots 0 to 5
     * are the locals, 8 to 15 the places on the stack, as state() names them.
     */
    private static final class Kinds {
        static final int NOTHING = 0;
        static final int NUMBER = 1;
        static final int ARRAY = 2;
        static final int SLOTS = 16;
        static final int BOTTOM = 8;

        static int kindIn(int kinds, int slot) {
            return (kinds >>> (2 * slot)) & 3;
        }

        static int with(int kinds, int slot, int kind) {
            return (kinds & ~(3 << (2 * slot))) | (kind << (2 * slot));
        }

        static boolean sameStacks(int one, int other) {
            return one >>> (2 * BOTTOM) == other >>> (2 * BOTTOM);
        }

        /** The first one, with nothing in the locals in which the two differ. */
        static int joined(int one, int other) {
            int result = one;
            for (int slot = 0; slot < MOST_LOCALS; slot++) {
                if (kindIn(one, slot) != kindIn(other, slot)) {
                    result = with(result, slot, NOTHING);
                }
            }
            return result;
        }
    }

    /** A method: its stack code, the states that verifying found, and its register code. */
    private static final class Method {
        /** SWAP is the densest: one byte becomes three units. */
        private static final int MOST_UNITS = 3 * MOST_BYTES;

        final int[] bytes = new int[MOST_BYTES];
        /** Whether an instruction begins at a place. */
        final boolean[] begins = new boolean[MOST_BYTES];
        /** NONE where no instruction was reached. */
        final int[] depths = new int[MOST_BYTES];
        final int[] kinds = new int[MOST_BYTES];
        final int[] firsts = new int[MOST_BYTES];
        final int[] unitRow = new int[MOST_UNITS];
        int length;
        int parameters;
        int locals;
        int unitCount;

        void fill(int[] draft, int draftLength, int parameterCount, int localCount) {
            System.arraycopy(draft, 0, bytes, 0, draftLength);
            length = draftLength;
            parameters = parameterCount;
            locals = localCount;
            unitCount = 0;
            Arrays.fill(depths, NONE);
            for (int place = 0; place < MOST_BYTES; place++) {
                begins[place] = false;
            }
        }

        boolean isReached(int place) {
            return place >= 0 && place < length && depths[place] != NONE;
        }

        boolean isInstruction(int place) {
            return place >= 0 && place < length && begins[place];
        }

        int operation(int place) {
            return bytes[place];
        }

        /** The byte behind the operation, as a local or a method. */
        int operand(int place) {
            return bytes[place + 1];
        }

        /** A byte as a number from -128 to 127. */
        int signed(int place) {
            return (byte) bytes[place];
        }

        int target(int place) {
            return place + signed(place + 1);
        }

        int behind(int place) {
            return place + Op.sizeOf(bytes[place]);
        }

        void addUnit(int unit) {
            if (unitCount < MOST_UNITS) {
                unitRow[unitCount] = unit & 0xFFFF;
                unitCount++;
            }
        }
    }

    /** Finds where a draft is malformed. */
    private static final class Checker {
        /** NONE when the method, which is to have this number, is well formed. */
        static int malformedPlace(Method method, int number) {
            if (method.length == 0) {
                return 0;
            }
            int broken = markInstructions(method);
            return broken != NONE ? broken : misledPlace(method, number);
        }

        /** Answers the first instruction that is no operation or lacks bytes. */
        private static int markInstructions(Method method) {
            int next = 0;
            for (int place = 0; place < method.length; place++) {
                if (place == next) {
                    next = method.behind(place);
                    if (!Op.exists(method.operation(place)) || next > method.length) {
                        return place;
                    }
                    method.begins[place] = true;
                }
            }
            return NONE;
        }

        private static int misledPlace(Method method, int number) {
            for (int place = 0; place < method.length; place++) {
                if (method.begins[place] && isMisled(method, place, number)) {
                    return place;
                }
            }
            return NONE;
        }

        private static boolean isMisled(Method method, int place, int number) {
            int operation = method.operation(place);
            if (Op.hasLocal(operation) && method.operand(place) >= method.locals) {
                return true;
            }
            if (Op.hasTarget(operation) && !method.isInstruction(method.target(place))) {
                return true;
            }
            if (operation == Op.CALL && method.operand(place) > number) {
                return true;
            }
            return method.behind(place) == method.length && Op.goesOnBehind(operation);
        }
    }

    /** Finds the states of a well-formed method, or where it is refused. */
    private static final class Verifier {
        /** An instruction is new when it is reached, and once more for each local that it loses. */
        private static final int MOST_LOOKS = MOST_BYTES * (1 + MOST_LOCALS);

        private final Method[] table;
        private final boolean[] fresh = new boolean[MOST_BYTES];
        private Method method;
        private int refused;
        /** The state that the instruction looked at is working on, and whether it could not. */
        private int height;
        private int kinds;
        private boolean stuck;

        Verifier(Method[] methods) {
            table = methods;
            method = methods[0];
        }

        /** NONE when the method is not refused. */
        int refusedPlace(Method subject) {
            method = subject;
            refused = NONE;
            enter();
            for (int looks = 0; looks < MOST_LOOKS && refused == NONE; looks++) {
                int place = lowestFresh();
                if (place == NONE) {
                    break;
                }
                fresh[place] = false;
                lookAt(place);
            }
            return refused;
        }

        private void enter() {
            for (int place = 0; place < MOST_BYTES; place++) {
                fresh[place] = false;
            }
            height = 0;
            kinds = 0;
            for (int k = 0; k < method.parameters; k++) {
                kinds = Kinds.with(kinds, k, Kinds.NUMBER);
            }
            comeTo(0);
        }

        private int lowestFresh() {
            for (int place = 0; place < method.length; place++) {
                if (fresh[place]) {
                    return place;
                }
            }
            return NONE;
        }

        private void lookAt(int place) {
            int operation = method.operation(place);
            height = method.depths[place];
            kinds = method.kinds[place];
            stuck = false;
            if (Op.isOfArrays(operation)) {
                applyToArrays(operation);
            } else if (Op.hasLocal(operation)) {
                applyToLocal(operation, method.operand(place));
            } else if (operation == Op.CALL) {
                applyCall(table[method.operand(place)].parameters);
            } else {
                applyToStack(operation);
            }
            if (stuck) {
                refused = place;
                return;
            }
            if (Op.goesOnBehind(operation)) {
                comeTo(method.behind(place));
            }
            if (Op.hasTarget(operation) && refused == NONE) {
                comeTo(method.target(place));
            }
        }

        private void comeTo(int place) {
            if (!method.isReached(place)) {
                keep(place, kinds);
                return;
            }
            int before = method.kinds[place];
            if (method.depths[place] != height || !Kinds.sameStacks(before, kinds)) {
                refused = place;
                return;
            }
            int joined = Kinds.joined(before, kinds);
            if (joined != before) {
                keep(place, joined);
            }
        }

        private void keep(int place, int newKinds) {
            method.depths[place] = height;
            method.kinds[place] = newKinds;
            fresh[place] = true;
        }

        private void applyToArrays(int operation) {
            switch (operation) {
                case Op.NEW:
                    take(Kinds.NUMBER);
                    push(Kinds.ARRAY);
                    break;
                case Op.GET:
                    take(Kinds.NUMBER);
                    take(Kinds.ARRAY);
                    push(Kinds.NUMBER);
                    break;
                case Op.SET:
                    take(Kinds.NUMBER);
                    take(Kinds.NUMBER);
                    take(Kinds.ARRAY);
                    break;
                default:
                    take(Kinds.ARRAY);
                    push(Kinds.NUMBER);
                    break;
            }
        }

        private void applyToLocal(int operation, int local) {
            if (operation == Op.STORE) {
                int stored = takeAny();
                kinds = Kinds.with(kinds, local, stored);
                return;
            }
            int kind = Kinds.kindIn(kinds, local);
            if (operation == Op.LOAD) {
                stuck = kind == Kinds.NOTHING;
                push(kind);
            } else {
                stuck = kind != Kinds.NUMBER;
            }
        }

        private void applyToStack(int operation) {
            switch (operation) {
                case Op.CONST:
                    push(Kinds.NUMBER);
                    break;
                case Op.DUP:
                    int doubled = takeAny();
                    push(doubled);
                    push(doubled);
                    break;
                case Op.POP:
                    takeAny();
                    break;
                case Op.SWAP:
                    int top = takeAny();
                    int below = takeAny();
                    push(top);
                    push(below);
                    break;
                case Op.GOTO:
                    break;
                case Op.IFZERO:
                case Op.IFNEG:
                case Op.RETURN:
                    take(Kinds.NUMBER);
                    break;
                case Op.IFLESS:
                    take(Kinds.NUMBER);
                    take(Kinds.NUMBER);
                    break;
                default:
                    take(Kinds.NUMBER);
                    take(Kinds.NUMBER);
                    push(Kinds.NUMBER);
                    break;
            }
        }

        private void applyCall(int parameters) {
            for (int k = 0; k < parameters; k++) {
                take(Kinds.NUMBER);
            }
            push(Kinds.NUMBER);
        }

        private void take(int kind) {
            if (takeAny() != kind) {
                stuck = true;
            }
        }

        private int takeAny() {
            if (height == 0) {
                stuck = true;
                return Kinds.NOTHING;
            }
            height--;
            int kind = Kinds.kindIn(kinds, Kinds.BOTTOM + height);
            kinds = Kinds.with(kinds, Kinds.BOTTOM + height, Kinds.NOTHING);
            return kind;
        }

        private void push(int kind) {
            if (height == MOST_STACKED) {
                stuck = true;
                return;
            }
            kinds = Kinds.with(kinds, Kinds.BOTTOM + height, kind);
            height++;
        }
    }

    /** Writes the register code of a verified method; the constants are its units' lowest bytes. */
    private static final class Translator {
        static final int COPY_NUMBER = 0x01;
        static final int COPY_ARRAY = 0x07;
        static final int RESULT = 0x0A;
        static final int RETURN = 0x0F;
        static final int SMALL_CONST = 0x12;
        static final int CONST = 0x13;
        static final int LENGTH = 0x21;
        static final int NEW = 0x23;
        static final int GOTO = 0x29;
        static final int IFLESS = 0x34;
        static final int IFZERO = 0x38;
        static final int IFNEG = 0x3A;
        static final int GET = 0x44;
        static final int SET = 0x4B;
        static final int CALL = 0x71;
        static final int ADD = 0x90;
        static final int INC = 0xD8;

        private final Method[] table;
        private Method method;
        /** The register of the top of the stack before the instruction. */
        private int top;

        Translator(Method[] methods) {
            table = methods;
            method = methods[0];
        }

        void translate(Method subject) {
            method = subject;
            for (int place = 0; place < method.length; place++) {
                if (method.isReached(place)) {
                    method.firsts[place] = method.unitCount;
                    top = method.locals + method.depths[place] - 1;
                    write(place);
                }
            }
            for (int place = 0; place < method.length; place++) {
                if (method.isReached(place) && Op.hasTarget(method.operation(place))) {
                    writeDistance(place);
                }
            }
        }

        /** Done last, for a target further on has no first unit before. */
        private void writeDistance(int place) {
            int from = method.firsts[place];
            int to = method.firsts[method.target(place)];
            method.unitRow[from + 1] = (to - from) & 0xFFFF;
        }

        private void write(int place) {
            int operation = method.operation(place);
            if (Op.isArithmetic(operation)) {
                method.addUnit(ADD + operation - Op.ADD + (top - 1) * 0x100);
                method.addUnit(top - 1 + top * 0x100);
            } else if (Op.hasTarget(operation)) {
                writeJump(operation);
            } else if (Op.isOfArrays(operation)) {
                writeOfArrays(operation);
            } else if (operation == Op.CALL) {
                writeCall(method.operand(place));
            } else if (operation == Op.RETURN) {
                method.addUnit(RETURN + top * 0x100);
            } else {
                writeMove(operation, place);
            }
        }

        private void writeMove(int operation, int place) {
            switch (operation) {
                case Op.CONST:
                    writeConst(method.signed(place + 1));
                    break;
                case Op.LOAD:
                    int local = method.operand(place);
                    writeCopy(top + 1, local, Kinds.kindIn(method.kinds[place], local));
                    break;
                case Op.STORE:
                    writeCopy(method.operand(place), top, kindOnStack(place, 1));
                    break;
                case Op.DUP:
                    writeCopy(top + 1, top, kindOnStack(place, 1));
                    break;
                case Op.SWAP:
                    writeCopy(top + 1, top, kindOnStack(place, 1));
                    writeCopy(top, top - 1, kindOnStack(place, 2));
                    writeCopy(top - 1, top + 1, kindOnStack(place, 1));
                    break;
                case Op.INC:
                    int counted = method.operand(place);
                    method.addUnit(INC + counted * 0x100);
                    method.addUnit(counted + (method.signed(place + 2) & 0xFF) * 0x100);
                    break;
                default:
                    break;
            }
        }

        private void writeConst(int number) {
            int into = (top + 1) * 0x100;
            if (number >= -8 && number <= 7) {
                method.addUnit(SMALL_CONST + into + (number & 0xF) * 0x1000);
            } else {
                method.addUnit(CONST + into);
                method.addUnit(number);
            }
        }

        private void writeCopy(int to, int from, int kind) {
            int copy = kind == Kinds.ARRAY ? COPY_ARRAY : COPY_NUMBER;
            method.addUnit(copy + to * 0x100 + from * 0x1000);
        }

        /** The kind of the top (1) or of what lies below it (2). */
        private int kindOnStack(int place, int fromTop) {
            return Kinds.kindIn(method.kinds[place], Kinds.BOTTOM + method.depths[place] - fromTop);
        }

        private void writeJump(int operation) {
            switch (operation) {
                case Op.GOTO:
                    method.addUnit(GOTO);
                    break;
                case Op.IFZERO:
                    method.addUnit(IFZERO + top * 0x100);
                    break;
                case Op.IFNEG:
                    method.addUnit(IFNEG + top * 0x100);
                    break;
                default:
                    method.addUnit(IFLESS + (top - 1) * 0x100 + top * 0x1000);
                    break;
            }
            method.addUnit(0);
        }

        private void writeOfArrays(int operation) {
            switch (operation) {
                case Op.NEW:
                    method.addUnit(NEW + top * 0x100 + top * 0x1000);
                    method.addUnit(0);
                    break;
                case Op.GET:
                    method.addUnit(GET + (top - 1) * 0x100);
                    method.addUnit(top - 1 + top * 0x100);
                    break;
                case Op.SET:
                    method.addUnit(SET + top * 0x100);
                    method.addUnit(top - 2 + (top - 1) * 0x100);
                    break;
                default:
                    method.addUnit(LENGTH + top * 0x100 + top * 0x1000);
                    break;
            }
        }

        private void writeCall(int number) {
            int count = table[number].parameters;
            int lowest = top - count + 1;
            int registers = 0;
            for (int k = 0; k < count; k++) {
                registers += (lowest + k) << (4 * k);
            }
            method.addUnit(CALL + count * 0x1000);
            method.addUnit(number);
            method.addUnit(registers);
            method.addUnit(RESULT + lowest * 0x100);
        }
    }

    /** The arrays of a run, one behind the other in a single row; an array is known by its number. */
    private static final class Heap {
        private static final int MOST_ARRAYS = 8;
        private static final int MOST_CELLS = 64;

        private final int[] cells = new int[MOST_CELLS];
        private final int[] starts = new int[MOST_ARRAYS];
        private final int[] sizes = new int[MOST_ARRAYS];
        private int count;
        private int used;

        void clear() {
            Arrays.fill(cells, 0);
            count = 0;
            used = 0;
        }

        boolean hasRoomFor(int size) {
            return count < MOST_ARRAYS && size <= MOST_CELLS - used;
        }

        /** Answers the number of the new array, for which there must be room. */
        int make(int size) {
            starts[count] = used;
            sizes[count] = size;
            used += size;
            count++;
            return count - 1;
        }

        /** NONE when there is no such array. */
        int sizeOf(int array) {
            return array >= 0 && array < count ? sizes[array] : NONE;
        }

        boolean has(int array, int index) {
            return index >= 0 && index < sizeOf(array);
        }

        int read(int array, int index) {
            return cells[starts[array] + index];
        }

        void write(int array, int index, int number) {
            cells[starts[array] + index] = number;
        }
    }

    /** A running method. Verifying has seen to it that its code stays inside these rows. */
    private static final class Frame {
        /** The locals, the places on the stack, and one more that SWAP uses, as a power of 2. */
        private static final int MOST_REGISTERS = 16;

        final int[] registers = new int[MOST_REGISTERS];
        Method method;
        int number;
        /** The place, or the unit, of the next step. */
        int place;
        /** How many are on the stack; register code does without. */
        private int height;

        Frame(Method some) {
            method = some;
        }

        void begin(Method begun, int itsNumber) {
            method = begun;
            number = itsNumber;
            place = 0;
            height = 0;
            Arrays.fill(registers, 0);
        }

        void push(int pushed) {
            registers[method.locals + height] = pushed;
            height++;
        }

        int pop() {
            height--;
            return registers[method.locals + height];
        }

        int unitBehind(int distance) {
            return method.unitRow[place + distance];
        }
    }

    /** Runs methods step by step, and keeps what the latest run led to. */
    private abstract static class Machine {
        static final int GOING = -1;
        static final int RETURNED = 0;
        static final int DIVIDED_BY_ZERO = 1;
        static final int NEGATIVE_SIZE = 2;
        static final int BAD_INDEX = 3;
        static final int NO_ROOM = 4;
        static final int TOO_DEEP = 5;
        static final int OUT_OF_STEPS = 6;

        final Method[] table;
        final Heap heap;
        private final Frame[] frames;
        private int open;
        /** What the method that returned last returned. */
        int result;
        int returned;
        int done;
        int endPlace;
        int endMethod;

        Machine(Method[] methods, Frame[] someFrames, Heap someHeap) {
            table = methods;
            frames = someFrames;
            heap = someHeap;
        }

        /** Does one step, or answers how the run ends at it and leaves the frame's place alone. */
        abstract int step(Frame frame);

        int perform(int number, int[] given, int budget) {
            heap.clear();
            open = 0;
            done = 0;
            Frame opened = openFrame(number);
            System.arraycopy(given, 0, opened.registers, 0, opened.method.parameters);
            int end = GOING;
            for (int turn = 0; turn < budget && end == GOING; turn++) {
                end = step(innermost());
                if (end == GOING || end == RETURNED) {
                    done++;
                }
            }
            returned = end == RETURNED ? result : 0;
            endPlace = innermost().place;
            endMethod = innermost().number;
            return end == GOING ? OUT_OF_STEPS : end;
        }

        Frame innermost() {
            return frames[open - 1];
        }

        boolean isTooDeep() {
            return open == MOST_RUNNING;
        }

        Frame openFrame(int number) {
            Frame opened = frames[open];
            opened.begin(table[number], number);
            open++;
            return opened;
        }

        /** The first method's frame stays open, for the run ends in it. */
        int closeFrame(int number) {
            result = number;
            if (open == 1) {
                return RETURNED;
            }
            open--;
            return GOING;
        }

        /** GOING when there can be an array of this size. */
        int trialOfSize(int size) {
            if (size < 0) {
                return NEGATIVE_SIZE;
            }
            return heap.hasRoomFor(size) ? GOING : NO_ROOM;
        }

        /** The operations are counted from ADD. */
        static boolean dividesByZero(int fromAdd, int b) {
            return fromAdd >= Op.DIV - Op.ADD && b == 0;
        }

        static int calculate(int fromAdd, int a, int b) {
            switch (fromAdd) {
                case 0:
                    return a + b;
                case 1:
                    return a - b;
                case 2:
                    return a * b;
                case 3:
                    return b == 0 ? 0 : a / b;
                default:
                    return b == 0 ? 0 : a % b;
            }
        }
    }

    /** Runs stack code. */
    private static final class StackMachine extends Machine {
        StackMachine(Method[] methods, Frame[] someFrames, Heap someHeap) {
            super(methods, someFrames, someHeap);
        }

        int step(Frame frame) {
            int operation = frame.method.operation(frame.place);
            if (operation == Op.RETURN) {
                return giveBack(frame);
            }
            if (operation == Op.CALL) {
                return call(frame);
            }
            if (Op.hasTarget(operation)) {
                jump(frame, operation);
                return GOING;
            }
            int end = GOING;
            if (Op.isArithmetic(operation)) {
                end = reckon(frame, operation - Op.ADD);
            } else if (Op.isOfArrays(operation)) {
                end = useArray(frame, operation);
            } else {
                move(frame, operation);
            }
            if (end == GOING) {
                frame.place = frame.method.behind(frame.place);
            }
            return end;
        }

        private int giveBack(Frame frame) {
            int end = closeFrame(frame.pop());
            if (end == GOING) {
                innermost().push(result);
            }
            return end;
        }

        private int call(Frame frame) {
            if (isTooDeep()) {
                return TOO_DEEP;
            }
            int number = frame.method.operand(frame.place);
            frame.place = frame.method.behind(frame.place);
            Frame opened = openFrame(number);
            for (int k = opened.method.parameters - 1; k >= 0; k--) {
                opened.registers[k] = frame.pop();
            }
            return GOING;
        }

        private void jump(Frame frame, int operation) {
            int b = operation == Op.GOTO ? 0 : frame.pop();
            boolean jumps;
            switch (operation) {
                case Op.GOTO:
                    jumps = true;
                    break;
                case Op.IFZERO:
                    jumps = b == 0;
                    break;
                case Op.IFNEG:
                    jumps = b < 0;
                    break;
                default:
                    jumps = frame.pop() < b;
                    break;
            }
            Method method = frame.method;
            frame.place = jumps ? method.target(frame.place) : method.behind(frame.place);
        }

        private int reckon(Frame frame, int fromAdd) {
            int b = frame.pop();
            int a = frame.pop();
            if (dividesByZero(fromAdd, b)) {
                return DIVIDED_BY_ZERO;
            }
            frame.push(calculate(fromAdd, a, b));
            return GOING;
        }

        private int useArray(Frame frame, int operation) {
            switch (operation) {
                case Op.NEW:
                    return makeArray(frame, frame.pop());
                case Op.LENGTH:
                    frame.push(heap.sizeOf(frame.pop()));
                    return GOING;
                default:
                    return useCell(frame, operation == Op.SET);
            }
        }

        private int makeArray(Frame frame, int size) {
            int end = trialOfSize(size);
            if (end == GOING) {
                frame.push(heap.make(size));
            }
            return end;
        }

        private int useCell(Frame frame, boolean sets) {
            int number = sets ? frame.pop() : 0;
            int index = frame.pop();
            int array = frame.pop();
            if (!heap.has(array, index)) {
                return BAD_INDEX;
            }
            if (sets) {
                heap.write(array, index, number);
            } else {
                frame.push(heap.read(array, index));
            }
            return GOING;
        }

        private void move(Frame frame, int operation) {
            Method method = frame.method;
            int place = frame.place;
            switch (operation) {
                case Op.CONST:
                    frame.push(method.signed(place + 1));
                    break;
                case Op.LOAD:
                    frame.push(frame.registers[method.operand(place)]);
                    break;
                case Op.STORE:
                    frame.registers[method.operand(place)] = frame.pop();
                    break;
                case Op.DUP:
                    int doubled = frame.pop();
                    frame.push(doubled);
                    frame.push(doubled);
                    break;
                case Op.POP:
                    frame.pop();
                    break;
                case Op.SWAP:
                    int top = frame.pop();
                    int below = frame.pop();
                    frame.push(top);
                    frame.push(below);
                    break;
                case Op.INC:
                    frame.registers[method.operand(place)] += method.signed(place + 2);
                    break;
                default:
                    break;
            }
        }
    }

    /** Runs register code, from its units alone. */
    private static final class RegisterMachine extends Machine {
        RegisterMachine(Method[] methods, Frame[] someFrames, Heap someHeap) {
            super(methods, someFrames, someHeap);
        }

        int step(Frame frame) {
            int unit = frame.unitBehind(0);
            int operation = unit & 0xFF;
            int x = (unit >>> 8) & 0xF;
            int y = unit >>> 12;
            int[] registers = frame.registers;
            switch (operation) {
                case Translator.COPY_NUMBER:
                case Translator.COPY_ARRAY:
                    registers[x] = registers[y];
                    return goOn(frame, 1);
                case Translator.SMALL_CONST:
                    // bit 3 of the four is the sign
                    registers[x] = (y ^ 8) - 8;
                    return goOn(frame, 1);
                case Translator.CONST:
                    registers[x] = (short) frame.unitBehind(1);
                    return goOn(frame, 2);
                case Translator.INC:
                    registers[x] = registers[firstOf(frame)] + (byte) (frame.unitBehind(1) >>> 8);
                    return goOn(frame, 2);
                case Translator.RESULT:
                    registers[x] = result;
                    return goOn(frame, 1);
                case Translator.RETURN:
                    return closeFrame(registers[x]);
                case Translator.CALL:
                    return call(frame);
                case Translator.GOTO:
                    return jump(frame, true);
                case Translator.IFZERO:
                    return jump(frame, registers[x] == 0);
                case Translator.IFNEG:
                    return jump(frame, registers[x] < 0);
                case Translator.IFLESS:
                    return jump(frame, registers[x] < registers[y]);
                case Translator.NEW:
                    return makeArray(frame, x, registers[y]);
                case Translator.LENGTH:
                    registers[x] = heap.sizeOf(registers[y]);
                    return goOn(frame, 1);
                case Translator.GET:
                case Translator.SET:
                    return useCell(frame, x, operation == Translator.SET);
                default:
                    return reckon(frame, x, operation - Translator.ADD);
            }
        }

        /** The registers that a line's second unit names. */
        private static int firstOf(Frame frame) {
            return frame.unitBehind(1) & 0xF;
        }

        private static int secondOf(Frame frame) {
            return (frame.unitBehind(1) >>> 8) & 0xF;
        }

        private static int goOn(Frame frame, int distance) {
            frame.place += distance;
            return GOING;
        }

        private static int jump(Frame frame, boolean jumps) {
            return goOn(frame, jumps ? (short) frame.unitBehind(1) : 2);
        }

        private int call(Frame frame) {
            if (isTooDeep()) {
                return TOO_DEEP;
            }
            int count = frame.unitBehind(0) >>> 12;
            int number = frame.unitBehind(1);
            int named = frame.unitBehind(2);
            Frame opened = openFrame(number);
            for (int k = 0; k < count; k++) {
                opened.registers[k] = frame.registers[(named >>> (4 * k)) & 0xF];
            }
            return goOn(frame, 3);
        }

        private int makeArray(Frame frame, int into, int size) {
            int end = trialOfSize(size);
            if (end != GOING) {
                return end;
            }
            frame.registers[into] = heap.make(size);
            return goOn(frame, 2);
        }

        private int useCell(Frame frame, int x, boolean sets) {
            int array = frame.registers[firstOf(frame)];
            int index = frame.registers[secondOf(frame)];
            if (!heap.has(array, index)) {
                return BAD_INDEX;
            }
            if (sets) {
                heap.write(array, index, frame.registers[x]);
            } else {
                frame.registers[x] = heap.read(array, index);
            }
            return goOn(frame, 2);
        }

        private int reckon(Frame frame, int into, int fromAdd) {
            int a = frame.registers[firstOf(frame)];
            int b = frame.registers[secondOf(frame)];
            if (dividesByZero(fromAdd, b)) {
                return DIVIDED_BY_ZERO;
            }
            frame.registers[into] = calculate(fromAdd, a, b);
            return goOn(frame, 2);
        }
    }
}
