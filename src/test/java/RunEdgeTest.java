/** The boundaries of RUNNING: each way a run ends, just before, at and behind it, in both forms. */
public final class RunEdgeTest {
    private static final Check CHECK = new Check();

    public static void main(String[] args) {
        wrapAround();
        incWraps();
        everyConstIsPushed();
        comparisons();
        zeros();
        divisors();
        sizes();
        sizesTogether();
        eightArrays();
        sizeBelowZeroGoesFirst();
        indices();
        firstAndLastCell();
        eightMethodsRunning();
        methodsThatReturnedRunNoMore();
        arraysOfCalledMethodsCount();
        stepsOfEachLine();
        everyBudget();
        thousandSteps();
        budgetGoesBeforeEveryEnd();
        parametersInOrder();
        nothingIsLeftOfAnEarlierRun();
        CHECK.end();
    }

    private static RegisterTranslator defined(int parameters, int locals, int... bytes) {
        RegisterTranslator x = new RegisterTranslator();
        int answer = Check.define(x, parameters, locals, bytes);
        CHECK.due("define " + java.util.Arrays.toString(bytes), answer, 0);
        return x;
    }

    /** Both forms: how method 0 ends, and what it returns. */
    private static void due(String what, RegisterTranslator x, int end, int value) {
        CHECK.due(what + " (stack)", x.run(false, 0, 1000), end);
        CHECK.due(what + " (stack): value", x.value(), value);
        CHECK.due(what + " (registers)", x.run(true, 0, 1000), end);
        CHECK.due(what + " (registers): value", x.value(), value);
    }

    private static RegisterTranslator ofTwo(int operation) {
        return defined(2, 2, Check.LOAD, 0, Check.LOAD, 1, operation, Check.RETURN);
    }

    private static void dueOfTwo(RegisterTranslator x, int a, int b, int value) {
        x.arguments(a, b, 0);
        due(a + " and " + b, x, 0, value);
    }

    private static void wrapAround() {
        RegisterTranslator add = ofTwo(Check.ADD);
        dueOfTwo(add, Check.MOST - 1, 1, Check.MOST);
        dueOfTwo(add, Check.MOST, 1, Check.LEAST);
        dueOfTwo(add, Check.LEAST, -1, Check.MOST);
        dueOfTwo(add, Check.LEAST, Check.LEAST, 0);
        RegisterTranslator sub = ofTwo(Check.SUB);
        dueOfTwo(sub, Check.LEAST + 1, 1, Check.LEAST);
        dueOfTwo(sub, Check.LEAST, 1, Check.MOST);
        dueOfTwo(sub, Check.MOST, -1, Check.LEAST);
        dueOfTwo(sub, 0, Check.LEAST, Check.LEAST);
        RegisterTranslator mul = ofTwo(Check.MUL);
        dueOfTwo(mul, 46341, 46341, -2147479015);
        dueOfTwo(mul, 65536, 65535, -65536);
        dueOfTwo(mul, 65536, 65536, 0);
        dueOfTwo(mul, Check.LEAST, -1, Check.LEAST);
        dueOfTwo(mul, Check.MOST, 2, -2);
        RegisterTranslator div = ofTwo(Check.DIV);
        dueOfTwo(div, Check.LEAST, -1, Check.LEAST);
        dueOfTwo(div, -7, 2, -3);
        dueOfTwo(div, 7, -2, -3);
        dueOfTwo(div, -1, 2, 0);
        RegisterTranslator rem = ofTwo(Check.REM);
        dueOfTwo(rem, Check.LEAST, -1, 0);
        dueOfTwo(rem, -7, 2, -1);
        dueOfTwo(rem, 7, -2, 1);
        dueOfTwo(rem, 6, 6, 0);
    }

    private static void incWraps() {
        int[][] cases = {{Check.MOST, 1, Check.LEAST}, {Check.MOST - 127, 127, Check.MOST},
            {Check.MOST - 126, 127, Check.LEAST}, {Check.LEAST, -1, Check.MOST},
            {Check.LEAST + 128, -128, Check.LEAST}, {Check.LEAST + 127, -128, Check.MOST}, {0, 0, 0}};
        for (int[] c : cases) {
            RegisterTranslator x = defined(1, 1, Check.INC, 0, c[1], Check.LOAD, 0, Check.RETURN);
            x.arguments(c[0], 0, 0);
            due("INC " + c[0] + " by " + c[1], x, 0, c[2]);
        }
    }

    private static void everyConstIsPushed() {
        for (int b = 0; b < 256; b++) {
            RegisterTranslator x = defined(0, 0, Check.CONST, b, Check.RETURN);
            due("CONST byte " + b, x, 0, b > 127 ? b - 256 : b);
        }
    }

    /** 1 when the jump is done. */
    private static RegisterTranslator jumping(int operation) {
        return defined(2, 2, Check.LOAD, 0, Check.LOAD, 1, operation, 5, Check.CONST, 0,
            Check.RETURN, Check.CONST, 1, Check.RETURN);
    }

    private static void comparisons() {
        RegisterTranslator zero = jumping(Check.IFZERO);
        RegisterTranslator negative = jumping(Check.IFNEG);
        for (int b : new int[] {Check.LEAST, -256, -1, 0, 1, 256, 65536, Check.MOST}) {
            dueOfTwo(zero, 7, b, b == 0 ? 1 : 0);
            dueOfTwo(negative, 7, b, b < 0 ? 1 : 0);
        }
        RegisterTranslator less = jumping(Check.IFLESS);
        for (int b : new int[] {Check.LEAST + 1, -1, 0, 1, Check.MOST - 1}) {
            dueOfTwo(less, b - 1, b, 1);
            dueOfTwo(less, b, b, 0);
            dueOfTwo(less, b + 1, b, 0);
        }
        dueOfTwo(less, Check.LEAST, Check.MOST, 1);
        dueOfTwo(less, Check.MOST, Check.LEAST, 0);
    }

    /** 0 ends a run as a divisor alone. */
    private static void zeros() {
        for (int a : new int[] {Check.LEAST, -1, 0, 1, Check.MOST}) {
            dueOfTwo(ofTwo(Check.ADD), a, 0, a);
            dueOfTwo(ofTwo(Check.SUB), a, 0, a);
            dueOfTwo(ofTwo(Check.MUL), a, 0, 0);
        }
    }

    private static void divisors() {
        for (int operation : new int[] {Check.DIV, Check.REM}) {
            RegisterTranslator x = ofTwo(operation);
            for (int a : new int[] {Check.LEAST, -1, 0, 1, Check.MOST}) {
                dueOfTwo(x, a, -1, operation == Check.DIV ? -a : 0);
                dueOfTwo(x, a, 1, operation == Check.DIV ? a : 0);
                x.arguments(a, 0, 0);
                CHECK.dueRun("by 0", x, false, Check.with(0, 9), 1, 0, 2, 4, 0);
                CHECK.dueRun("by 0", x, true, Check.with(0, 9), 1, 0, 2, 2, 0);
            }
        }
    }

    private static void sizes() {
        RegisterTranslator x = defined(1, 1, Check.LOAD, 0, Check.NEW, Check.LENGTH, Check.RETURN);
        for (int size : new int[] {0, 1, 63, 64}) {
            x.arguments(size, 0, 0);
            due("size " + size, x, 0, size);
            CHECK.due("size by cell", x.cell(0, -1), size);
            for (int k = -1; k <= size; k++) {
                CHECK.due("a zero", x.cell(0, k), k == -1 ? size : 0);
            }
        }
        for (int size : new int[] {-1, -2, Check.LEAST, 65, 66, 128, 256, 65536, Check.MOST}) {
            x.arguments(size, 0, 0);
            int end = size < 0 ? 2 : 4;
            CHECK.dueRun("size " + size, x, false, Check.with(0, 9), end, 0, 1, 2, 0);
            CHECK.due("no array", x.cell(0, -1), -1);
            CHECK.dueRun("size " + size, x, true, Check.with(0, 9), end, 0, 1, 1, 0);
            CHECK.due("no array", x.cell(0, -1), -1);
        }
    }

    /** Two arrays, then a third one: together 64 at most. */
    private static void sizesTogether() {
        RegisterTranslator x = defined(3, 3, Check.LOAD, 0, Check.NEW, Check.LOAD, 1, Check.NEW,
            Check.LOAD, 2, Check.NEW, Check.CONST, 9, Check.RETURN);
        int[][] cases = {{31, 32, 0, 0}, {31, 32, 1, 0}, {31, 32, 2, 4}, {64, 0, 0, 0}, {64, 0, 1, 4},
            {0, 0, 64, 0}, {0, 0, 65, 4}, {1, 0, 64, 4}, {63, 1, 0, 0}, {63, 1, Check.MOST, 4},
            {1, 63, Check.MOST - 63, 4}, {1, 1, Check.MOST - 1, 4}, {64, 0, -1, 2},
            {32, 32, Check.LEAST, 2}};
        for (int[] c : cases) {
            x.arguments(c[0], c[1], c[2]);
            String what = "sizes " + c[0] + ", " + c[1] + ", " + c[2];
            due(what, x, c[3], c[3] == 0 ? 9 : 0);
            CHECK.due(what + ": the first", x.cell(0, -1), c[0]);
            CHECK.due(what + ": the second", x.cell(1, -1), c[1]);
            CHECK.due(what + ": the third", x.cell(2, -1), c[3] == 0 ? c[2] : -1);
            CHECK.due(what + ": at", x.at(), c[3] == 0 ? 11 : 7);
        }
    }

    /** So many arrays of a size: local 0 counts down. */
    private static void eightArrays() {
        for (int size : new int[] {0, 1, 8}) {
            RegisterTranslator x = defined(2, 2, Check.LOAD, 0, Check.IFZERO, 11, Check.INC, 0, -1,
                Check.LOAD, 1, Check.NEW, Check.POP, Check.GOTO, -11, Check.CONST, 9, Check.RETURN);
            for (int count = 0; count <= 10; count++) {
                x.arguments(count, size, 0);
                due(count + " arrays of " + size, x, count <= 8 ? 0 : 4, count <= 8 ? 9 : 0);
                for (int n = -1; n <= 9; n++) {
                    boolean made = n >= 0 && n < Math.min(count, 8);
                    CHECK.due("array " + n, x.cell(n, -1), made ? size : -1);
                }
            }
            CHECK.dueRun("the ninth", x, false, Check.with(0, 99), 4, 0, 8 * 7 + 4, 9, 0);
            CHECK.dueRun("the ninth", x, true, Check.with(0, 99), 4, 0, 8 * 6 + 4, 6, 0);
        }
    }

    /** The ninth array, and one for which 64 are taken, with a size of -1 and of 0. */
    private static void sizeBelowZeroGoesFirst() {
        int[] loop = {Check.CONST, 0, Check.NEW, Check.POP, Check.INC, 0, -1, Check.LOAD, 0,
            Check.IFZERO, 4, Check.GOTO, -11, Check.LOAD, 1, Check.NEW, Check.LENGTH, Check.RETURN};
        RegisterTranslator ninth = defined(2, 2, loop);
        ninth.arguments(8, -1, 0);
        due("the ninth, of -1", ninth, 2, 0);
        ninth.arguments(8, Check.LEAST, 0);
        due("the ninth, of the least size", ninth, 2, 0);
        ninth.arguments(8, 0, 0);
        due("the ninth, of 0", ninth, 4, 0);
        ninth.arguments(7, 0, 0);
        due("the eighth, of 0", ninth, 0, 0);
        ninth.arguments(7, -1, 0);
        due("the eighth, of -1", ninth, 2, 0);
    }

    private static void indices() {
        for (int size : new int[] {0, 1, 2, 62}) {
            RegisterTranslator get = defined(3, 3, between(Check.GET, Check.RETURN));
            RegisterTranslator set = defined(3, 3, between(Check.LOAD, 2, Check.SET, Check.CONST, 7,
                Check.RETURN));
            for (int index : new int[] {Check.LEAST, -65536, -2, -1, 0, size - 1, size, size + 1,
                63, 64, 65536, Check.MOST}) {
                int end = index >= 0 && index < size ? 0 : 3;
                get.arguments(size, index, 0);
                due("GET " + index + " of " + size, get, end, 0);
                CHECK.due("GET: at", get.at(), end == 0 ? 12 : 10);
                set.arguments(size, index, -5);
                due("SET " + index + " of " + size, set, end, end == 0 ? 7 : 0);
                CHECK.due("SET: at", set.at(), end == 0 ? 14 : 11);
                int kept = index == -1 ? size : end == 0 ? -5 : 0;
                CHECK.due("SET: the cell", set.cell(1, index), kept);
                CHECK.due("SET: the array before", set.cell(0, 0), 0);
                CHECK.due("SET: the array behind", set.cell(2, 0), 0);
            }
        }
    }

    /** The array of size local 0 lies between two others; local 1 is the index. */
    private static int[] between(int... use) {
        return Check.join(Check.row(Check.CONST, 1, Check.NEW, Check.LOAD, 0, Check.NEW,
            Check.CONST, 1, Check.NEW, Check.POP, Check.LOAD, 1), use);
    }

    /** What SET put into the first and the last cell, GET finds there. */
    private static void firstAndLastCell() {
        RegisterTranslator x = defined(3, 4, Check.LOAD, 0, Check.NEW, Check.STORE, 3, Check.LOAD, 3,
            Check.LOAD, 1, Check.LOAD, 2, Check.SET, Check.LOAD, 3, Check.LOAD, 1, Check.GET,
            Check.RETURN);
        for (int size : new int[] {1, 2, 63, 64}) {
            for (int index : new int[] {0, size - 1}) {
                for (int number : new int[] {Check.LEAST, -1, 1, Check.MOST}) {
                    x.arguments(size, index, number);
                    due("cell " + index + " of " + size, x, 0, number);
                    CHECK.due("cell " + index + " of " + size, x.cell(0, index), number);
                }
            }
        }
    }

    /** Local 0 counts down to 0, one method deeper each time. */
    private static void eightMethodsRunning() {
        RegisterTranslator x = defined(1, 1, Check.LOAD, 0, Check.IFZERO, 10, Check.INC, 0, -1,
            Check.LOAD, 0, Check.CALL, 0, Check.RETURN, Check.CONST, 77, Check.RETURN);
        for (int more = 0; more <= 10; more++) {
            x.arguments(more, 0, 0);
            String what = 1 + more + " methods";
            if (more <= 7) {
                int at = more == 0 ? 14 : 11;
                CHECK.dueRun(what, x, false, Check.with(0, 1000), 0, 77, 4 + more * 6, at, 0);
                at = more == 0 ? 13 : 10;
                CHECK.dueRun(what, x, true, Check.with(0, 1000), 0, 77, 4 + more * 7, at, 0);
            } else {
                CHECK.dueRun(what, x, false, Check.with(0, 1000), 5, 0, 7 * 5 + 4, 9, 0);
                CHECK.dueRun(what, x, true, Check.with(0, 1000), 5, 0, 7 * 5 + 4, 6, 0);
            }
        }
    }

    /** Twenty calls, one after the other: two methods are running at most. */
    private static void methodsThatReturnedRunNoMore() {
        RegisterTranslator x = new RegisterTranslator();
        Check.define(x, 0, 0, Check.CONST, 3, Check.RETURN);
        Check.define(x, 1, 2, Check.CONST, 0, Check.STORE, 1, Check.CALL, 0, Check.LOAD, 1,
            Check.ADD, Check.STORE, 1, Check.INC, 0, -1, Check.LOAD, 0, Check.IFZERO, 4,
            Check.GOTO, -14, Check.LOAD, 1, Check.RETURN);
        x.arguments(20, 0, 0);
        CHECK.due("stack", x.run(false, 1, 1000), 0);
        CHECK.due("stack value", x.value(), 60);
        CHECK.due("registers", x.run(true, 1, 1000), 0);
        CHECK.due("registers value", x.value(), 60);
    }

    /** The ninth array and the 65th cell of the run, whichever methods made the others. */
    private static void arraysOfCalledMethodsCount() {
        RegisterTranslator x = new RegisterTranslator();
        Check.define(x, 1, 1, Check.LOAD, 0, Check.NEW, Check.LENGTH, Check.RETURN);
        Check.define(x, 2, 2, Check.LOAD, 0, Check.CALL, 0, Check.POP, Check.INC, 1, -1,
            Check.LOAD, 1, Check.IFZERO, 4, Check.GOTO, -12, Check.LOAD, 0, Check.NEW,
            Check.LENGTH, Check.RETURN);
        int[][] cases = {{0, 7, 0, 1}, {0, 8, 4, 1}, {0, 9, 4, 0}, {8, 7, 0, 1}, {16, 3, 0, 1},
            {16, 4, 4, 1}, {16, 5, 4, 0}, {-1, 1, 2, 0}};
        for (int[] c : cases) {
            x.arguments(c[0], c[1], 0);
            for (boolean registers : new boolean[] {false, true}) {
                CHECK.due("sizes " + c[0], x.run(registers, 1, 1000), c[2]);
                CHECK.due("sizes " + c[0] + ": running", x.running(), c[3]);
            }
        }
    }

    /** Each instruction is one step, and each line of register code: three of a SWAP, none of a POP. */
    private static void stepsOfEachLine() {
        int[] two = {Check.CONST, 5, Check.CONST, 3};
        int[] array = {Check.CONST, 1, Check.NEW, Check.CONST, 0};
        for (int operation = Check.ADD; operation <= Check.REM; operation++) {
            dueSteps(4, 5, 4, 4, Check.join(two, Check.row(operation, Check.RETURN)));
        }
        dueSteps(2, 2, 2, 1, Check.CONST, 7, Check.RETURN);
        dueSteps(2, 2, 2, 2, Check.CONST, 8, Check.RETURN);
        dueSteps(3, 3, 3, 2, Check.CONST, 1, Check.DUP, Check.RETURN);
        dueSteps(4, 5, 3, 2, Check.join(two, Check.row(Check.POP, Check.RETURN)));
        dueSteps(4, 5, 6, 5, Check.join(two, Check.row(Check.SWAP, Check.RETURN)));
        dueSteps(3, 4, 3, 3, Check.GOTO, 2, Check.CONST, 1, Check.RETURN);
        for (int operation : new int[] {Check.IFZERO, Check.IFNEG}) {
            for (int a : new int[] {-1, 0, 1}) {
                dueSteps(4, 6, 4, 4, Check.CONST, a, operation, 2, Check.CONST, 1, Check.RETURN);
            }
        }
        dueSteps(5, 8, 5, 5, Check.join(two, Check.row(Check.IFLESS, 2, Check.CONST, 1,
            Check.RETURN)));
        dueSteps(4, 4, 4, 4, Check.CONST, 1, Check.NEW, Check.LENGTH, Check.RETURN);
        dueSteps(5, 6, 5, 6, Check.join(array, Check.row(Check.GET, Check.RETURN)));
        dueSteps(7, 10, 7, 8, Check.join(array, Check.row(Check.CONST, 7, Check.SET, Check.CONST, 1,
            Check.RETURN)));
        dueSteps(5, 9, 5, 5, Check.CONST, 1, Check.STORE, 0, Check.INC, 0, 1, Check.LOAD, 0,
            Check.RETURN);
        RegisterTranslator call = new RegisterTranslator();
        Check.define(call, 0, 0, Check.CONST, 1, Check.RETURN);
        Check.define(call, 0, 0, Check.CALL, 0, Check.RETURN);
        CHECK.dueRun("CALL", call, false, Check.with(1, 99), 0, 1, 4, 2, 1);
        CHECK.dueRun("CALL", call, true, Check.with(1, 99), 0, 1, 5, 4, 1);
    }

    /** Steps and at in stack code, then in register code. */
    private static void dueSteps(int steps, int place, int lines, int unit, int... bytes) {
        RegisterTranslator x = defined(0, 1, bytes);
        String what = java.util.Arrays.toString(bytes);
        CHECK.due("run " + what, x.run(false, 0, 99), 0);
        CHECK.due("steps " + what, x.steps(), steps);
        CHECK.due("at " + what, x.at(), place);
        CHECK.due("run of units " + what, x.run(true, 0, 99), 0);
        CHECK.due("steps of units " + what, x.steps(), lines);
        CHECK.due("at of units " + what, x.at(), unit);
    }

    /** From none to one more than are needed; where it stops is told by the lists. */
    private static void everyBudget() {
        RegisterTranslator x = new RegisterTranslator();
        Check.define(x, 1, 1, Check.LOAD, 0, Check.POP, Check.CONST, 50, Check.RETURN);
        Check.define(x, 0, 0, Check.CONST, 5, Check.DUP, Check.SWAP, Check.CALL, 0, Check.POP,
            Check.RETURN);
        int[] stackAt = {0, 2, 3, 4, 0, 2, 3, 5, 6, 7, 7, 7};
        int[] stackIn = {1, 1, 1, 1, 0, 0, 0, 0, 1, 1, 1, 1};
        dueBudgets(x, false, stackAt, stackIn);
        int[] unitAt = {0, 1, 2, 3, 4, 5, 0, 1, 3, 8, 9, 9, 9};
        int[] unitIn = {1, 1, 1, 1, 1, 1, 0, 0, 0, 1, 1, 1, 1};
        dueBudgets(x, true, unitAt, unitIn);
    }

    /** The last two budgets are those with which it returns. */
    private static void dueBudgets(RegisterTranslator x, boolean registers, int[] at, int[] in) {
        int needed = at.length - 2;
        for (int budget = 0; budget < at.length; budget++) {
            boolean enough = budget >= needed;
            CHECK.dueRun("budget " + budget, x, registers, Check.with(1, budget), enough ? 0 : 6,
                enough ? 5 : 0, enough ? needed : budget, at[budget], in[budget]);
        }
    }

    /** 4 steps a round but 3 in the last one, and 5 behind them: 249 rounds are exactly 1000. */
    private static void thousandSteps() {
        RegisterTranslator x = defined(1, 1, Check.INC, 0, -1, Check.LOAD, 0, Check.IFZERO, 4,
            Check.GOTO, -7, Check.INC, 0, 1, Check.INC, 0, 1, Check.INC, 0, 7, Check.LOAD, 0,
            Check.RETURN);
        dueEnds(x, 248, 996);
        dueEnds(x, 249, 1000);
        x.arguments(250, 0, 0);
        CHECK.dueRun("1004 steps", x, false, Check.with(0, 1000), 6, 0, 1000, 12, 0);
        CHECK.dueRun("1004 steps", x, true, Check.with(0, 1000), 6, 0, 1000, 9, 0);
        for (boolean registers : new boolean[] {false, true}) {
            for (int budget : new int[] {-1, 1001, 1002, Check.LEAST, Check.MOST}) {
                CHECK.due("budget " + budget, x.run(registers, 0, budget), RegisterTranslator.BAD);
            }
            for (int budget : new int[] {0, 1, 999, 1000}) {
                CHECK.due("budget " + budget, x.run(registers, 0, budget), 6);
                CHECK.due("its steps", x.steps(), budget);
            }
        }
    }

    private static void dueEnds(RegisterTranslator x, int rounds, int steps) {
        x.arguments(rounds, 0, 0);
        for (boolean registers : new boolean[] {false, true}) {
            CHECK.due("one step short", x.run(registers, 0, steps - 1), 6);
            CHECK.due("its steps", x.steps(), steps - 1);
            CHECK.due("its value", x.value(), 0);
            CHECK.due("just enough", x.run(registers, 0, steps), 0);
            CHECK.due("its steps", x.steps(), steps);
            CHECK.due("its value", x.value(), 9);
            CHECK.due("all that there can be", x.run(registers, 0, 1000), 0);
            CHECK.due("its steps", x.steps(), steps);
        }
    }

    /** With as many steps as go before the end it is 6, with one more it is what the step comes to. */
    private static void budgetGoesBeforeEveryEnd() {
        int[] zeros = {Check.CONST, 0, Check.CONST, 0};
        dueBefore(1, 2, 4, 2, Check.join(zeros, Check.row(Check.DIV, Check.RETURN)));
        dueBefore(1, 2, 4, 2, Check.join(zeros, Check.row(Check.REM, Check.RETURN)));
        dueBefore(2, 1, 2, 1, Check.CONST, -1, Check.NEW, Check.LENGTH, Check.RETURN);
        dueBefore(3, 3, 5, 4, Check.CONST, 0, Check.NEW, Check.CONST, 0, Check.GET, Check.RETURN);
        dueBefore(3, 4, 7, 5, Check.CONST, 0, Check.NEW, Check.CONST, 0, Check.CONST, 0, Check.SET,
            Check.GOTO, 0);
        dueBefore(4, 1, 2, 2, Check.CONST, 65, Check.NEW, Check.LENGTH, Check.RETURN);
        dueBefore(5, 7, 0, 0, Check.CALL, 0, Check.RETURN);
        dueBefore(0, 1, 2, 1, Check.CONST, 0, Check.RETURN);
    }

    private static void dueBefore(int end, int steps, int place, int unit, int... bytes) {
        RegisterTranslator x = defined(0, 0, bytes);
        int done = end == 0 ? steps + 1 : steps;
        for (boolean registers : new boolean[] {false, true}) {
            int at = registers ? unit : place;
            CHECK.dueRun("6 before " + end, x, registers, Check.with(0, steps), 6, 0, steps, at, 0);
            CHECK.dueRun("" + end, x, registers, Check.with(0, steps + 1), end, 0, done, at, 0);
            CHECK.dueRun("" + end, x, registers, Check.with(0, 1000), end, 0, done, at, 0);
        }
    }

    /** Methods with 0 to 3 parameters are called with 1, 2, 3 on the stack: the last one is the top. */
    private static void parametersInOrder() {
        int[] digits = {0, 3, 23, 123};
        int[] left = {3, 2, 1, 0};
        for (int p = 0; p <= 3; p++) {
            RegisterTranslator x = new RegisterTranslator();
            int[] code = {Check.CONST, 0};
            for (int k = 0; k < p; k++) {
                code = Check.join(code, Check.row(Check.CONST, 10, Check.MUL, Check.LOAD, k, Check.ADD));
            }
            Check.define(x, p, p, Check.join(code, Check.row(Check.RETURN)));
            int[] three = {Check.CONST, 0, Check.CONST, 1, Check.CONST, 2, Check.CONST, 3};
            Check.define(x, 0, 0, Check.join(three, Check.row(Check.CALL, 0, Check.RETURN)));
            Check.define(x, 0, 0, Check.join(three, Check.row(Check.CALL, 0, Check.POP, Check.RETURN)));
            for (boolean registers : new boolean[] {false, true}) {
                x.run(registers, 1, 99);
                CHECK.due("a call with " + p, x.value(), digits[p]);
                x.run(registers, 2, 99);
                CHECK.due("what is left by a call with " + p, x.value(), left[p]);
            }
        }
    }

    /** A run that is cut off inside calls, with arrays, and then one that needs all of it again. */
    private static void nothingIsLeftOfAnEarlierRun() {
        RegisterTranslator x = defined(1, 1, Check.CONST, 8, Check.NEW, Check.CONST, 7, Check.LOAD, 0,
            Check.SET, Check.LOAD, 0, Check.IFZERO, 10, Check.INC, 0, -1, Check.LOAD, 0,
            Check.CALL, 0, Check.RETURN, Check.CONST, 77, Check.RETURN);
        for (int k = 0; k < 10; k++) {
            boolean registers = k % 2 == 0;
            x.arguments(7, 0, 0);
            CHECK.due("all that there can be", x.run(registers, 0, 1000), 0);
            CHECK.due("its value", x.value(), 77);
            CHECK.due("the eighth array", x.cell(7, -1), 8);
            CHECK.due("the first array", x.cell(0, 7), 7);
            x.arguments(8, 0, 0);
            CHECK.due("one call too many", x.run(!registers, 0, 1000), 5);
            CHECK.due("cut off", x.run(registers, 0, 40 + k), 6);
            CHECK.due("cut off before the first array", x.run(registers, 0, 1), 6);
            CHECK.due("no array", x.cell(0, -1), -1);
            CHECK.due("cut off behind it", x.run(registers, 0, 2), 6);
            CHECK.due("a zero", x.cell(0, 7), 0);
        }
    }
}
