/** Promises 12 to 18: arguments, run in both forms, and what the latest run led to. */
public final class RunTest {
    private static final Check CHECK = new Check();

    public static void main(String[] args) {
        argumentsAreThoseFromNowOn();
        arithmeticIsJavas();
        movesAndIncrements();
        conditions();
        budgets();
        stepsOfRegisterCode();
        divisionsByZero();
        sizesAndRoom();
        indices();
        cellsOfTheLatestRun();
        arraysAreShared();
        calls();
        callsThatGoTooDeep();
        endsInsideACall();
        badRunsChangeNothing();
        CHECK.end();
    }

    private static RegisterTranslator defined(int parameters, int locals, int... bytes) {
        RegisterTranslator x = new RegisterTranslator();
        CHECK.due("define", Check.define(x, parameters, locals, bytes), 0);
        return x;
    }

    /** Both forms end the same way with the same value; at is told for each. */
    private static void dueBoth(String what, RegisterTranslator x, int end, int value,
            int stackAt, int registerAt) {
        CHECK.due(what + ": stack", x.run(false, 0, 1000), end);
        CHECK.due(what + ": stack value", x.value(), value);
        CHECK.due(what + ": stack at", x.at(), stackAt);
        CHECK.due(what + ": registers", x.run(true, 0, 1000), end);
        CHECK.due(what + ": registers value", x.value(), value);
        CHECK.due(what + ": registers at", x.at(), registerAt);
    }

    private static void argumentsAreThoseFromNowOn() {
        RegisterTranslator x = defined(2, 3, Check.LOAD, 0, Check.LOAD, 1, Check.SUB, Check.RETURN);
        x.arguments(1000000, 1, 7);
        dueBoth("arguments", x, 0, 999999, 5, 4);
        x.arguments(Integer.MIN_VALUE, 1, 0);
        CHECK.due("value of the run before", x.value(), 999999);
        dueBoth("other arguments", x, 0, Integer.MAX_VALUE, 5, 4);
        RegisterTranslator third = defined(3, 3, Check.INC, 2, 1, Check.LOAD, 2, Check.RETURN);
        third.arguments(1, 2, 3);
        dueBoth("third argument", third, 0, 4, 5, 3);
        dueBoth("arguments are not changed by a run", third, 0, 4, 5, 3);
    }

    private static void arithmeticIsJavas() {
        int[] numbers = {0, 1, -1, 7, -7, 3, -3, Integer.MIN_VALUE, Integer.MAX_VALUE, 65536};
        int[] operations = {Check.ADD, Check.SUB, Check.MUL, Check.DIV, Check.REM};
        for (int operation : operations) {
            RegisterTranslator x = defined(2, 2, Check.LOAD, 0, Check.LOAD, 1, operation,
                Check.RETURN);
            for (int a : numbers) {
                for (int b : new int[] {1, -1, 2, -2, Integer.MIN_VALUE}) {
                    x.arguments(a, b, 0);
                    dueBoth(a + " " + operation + " " + b, x, 0, due(operation, a, b), 5, 4);
                }
            }
        }
    }

    private static int due(int operation, int a, int b) {
        switch (operation) {
            case Check.ADD: return a + b;
            case Check.SUB: return a - b;
            case Check.MUL: return a * b;
            case Check.DIV: return a / b;
            default: return a % b;
        }
    }

    private static void movesAndIncrements() {
        dueBoth("CONST", defined(0, 0, Check.CONST, -128, Check.RETURN), 0, -128, 2, 2);
        dueBoth("CONST", defined(0, 0, Check.CONST, 127, Check.RETURN), 0, 127, 2, 2);
        dueBoth("CONST", defined(0, 0, Check.CONST, -8, Check.RETURN), 0, -8, 2, 1);
        dueBoth("CONST", defined(0, 0, Check.CONST, 7, Check.RETURN), 0, 7, 2, 1);
        dueBoth("SWAP", defined(0, 0, Check.CONST, 5, Check.CONST, 3, Check.SWAP, Check.SUB,
            Check.RETURN), 0, -2, 6, 7);
        dueBoth("DUP", defined(0, 0, Check.CONST, 5, Check.DUP, Check.MUL, Check.RETURN), 0, 25,
            4, 4);
        dueBoth("POP", defined(0, 0, Check.CONST, 5, Check.CONST, 3, Check.POP, Check.RETURN), 0, 5,
            5, 2);
        RegisterTranslator x = defined(1, 2, Check.LOAD, 0, Check.STORE, 1, Check.INC, 1, -128,
            Check.INC, 1, 127, Check.INC, 1, -1, Check.LOAD, 0, Check.LOAD, 1, Check.SUB,
            Check.RETURN);
        x.arguments(Integer.MIN_VALUE, 0, 0);
        dueBoth("INC", x, 0, 2, 18, 12);
    }

    private static void conditions() {
        int[] zeroOrNegative = {Check.IFZERO, Check.IFNEG};
        for (int operation : zeroOrNegative) {
            RegisterTranslator x = defined(1, 1, Check.LOAD, 0, operation, 5, Check.CONST, 1,
                Check.RETURN, Check.CONST, 2, Check.RETURN);
            for (int a : new int[] {0, 1, -1, Integer.MIN_VALUE, Integer.MAX_VALUE}) {
                x.arguments(a, 0, 0);
                boolean jumps = operation == Check.IFZERO ? a == 0 : a < 0;
                dueBoth("condition " + operation + " of " + a, x, 0, jumps ? 2 : 1,
                    jumps ? 9 : 6, jumps ? 6 : 4);
            }
        }
        RegisterTranslator x = defined(2, 2, Check.LOAD, 0, Check.LOAD, 1, Check.IFLESS, 5,
            Check.CONST, 1, Check.RETURN, Check.CONST, 2, Check.RETURN);
        int[][] pairs = {{1, 2}, {2, 1}, {1, 1}, {Integer.MIN_VALUE, Integer.MAX_VALUE},
            {Integer.MAX_VALUE, Integer.MIN_VALUE}};
        for (int[] pair : pairs) {
            x.arguments(pair[0], pair[1], 0);
            boolean jumps = pair[0] < pair[1];
            dueBoth("IFLESS", x, 0, jumps ? 2 : 1, jumps ? 11 : 8, jumps ? 7 : 5);
        }
    }

    private static void budgets() {
        RegisterTranslator x = defined(0, 0, Check.CONST, 1, Check.CONST, 0, Check.DIV,
            Check.RETURN);
        CHECK.dueRun("no budget", x, false, Check.with(0, 0), 6, 0, 0, 0, 0);
        CHECK.dueRun("no budget", x, true, Check.with(0, 0), 6, 0, 0, 0, 0);
        CHECK.dueRun("6 before 1", x, false, Check.with(0, 2), 6, 0, 2, 4, 0);
        CHECK.dueRun("6 before 1", x, true, Check.with(0, 2), 6, 0, 2, 2, 0);
        CHECK.dueRun("1", x, false, Check.with(0, 3), 1, 0, 2, 4, 0);
        CHECK.dueRun("1", x, true, Check.with(0, 3), 1, 0, 2, 2, 0);
        RegisterTranslator one = defined(0, 0, Check.CONST, 9, Check.RETURN);
        CHECK.dueRun("6 before RETURN", one, false, Check.with(0, 1), 6, 0, 1, 2, 0);
        CHECK.dueRun("RETURN within the budget", one, false, Check.with(0, 2), 0, 9, 2, 2, 0);
        CHECK.dueRun("6 before RETURN", one, true, Check.with(0, 1), 6, 0, 1, 2, 0);
        CHECK.dueRun("RETURN within the budget", one, true, Check.with(0, 2), 0, 9, 2, 2, 0);
        RegisterTranslator loop = defined(0, 1, Check.CONST, 0, Check.STORE, 0, Check.INC, 0, 1,
            Check.GOTO, -3);
        CHECK.dueRun("1000 steps", loop, false, Check.with(0, 1000), 6, 0, 1000, 4, 0);
        CHECK.dueRun("1000 steps", loop, true, Check.with(0, 1000), 6, 0, 1000, 2, 0);
        CHECK.dueRun("999 steps", loop, true, Check.with(0, 999), 6, 0, 999, 4, 0);
    }

    private static void stepsOfRegisterCode() {
        RegisterTranslator x = defined(0, 0, Check.CONST, 5, Check.CONST, 100, Check.SWAP,
            Check.POP, Check.RETURN);
        CHECK.dueRun("a SWAP and a POP", x, false, Check.with(0, 9), 0, 100, 5, 6, 0);
        CHECK.dueRun("three COPYs, no POP", x, true, Check.with(0, 9), 0, 100, 6, 6, 0);
        int[] places = {0, 1, 3, 4, 5, 6};
        for (int budget = 0; budget < places.length; budget++) {
            CHECK.dueRun("line " + budget, x, true, Check.with(0, budget), 6, 0, budget,
                places[budget], 0);
        }
    }

    private static void divisionsByZero() {
        for (int operation : new int[] {Check.DIV, Check.REM}) {
            RegisterTranslator x = defined(2, 2, Check.LOAD, 0, Check.LOAD, 1, operation,
                Check.RETURN);
            for (int a : new int[] {0, 1, Integer.MIN_VALUE}) {
                x.arguments(a, 0, 0);
                dueBoth("by zero", x, 1, 0, 4, 2);
                CHECK.due("steps before it", x.steps(), 2);
            }
        }
    }

    private static void sizesAndRoom() {
        RegisterTranslator x = defined(2, 2, Check.LOAD, 0, Check.NEW, Check.LENGTH, Check.LOAD, 1,
            Check.NEW, Check.LENGTH, Check.ADD, Check.RETURN);
        int[][] cases = {{0, 0, 0}, {64, 0, 0}, {63, 1, 0}, {32, 32, 0}, {65, 0, 4},
            {Integer.MAX_VALUE, 0, 4}, {-1, 0, 2}, {Integer.MIN_VALUE, 0, 2}};
        for (int[] c : cases) {
            x.arguments(c[0], c[1], 0);
            int end = c[2];
            dueBoth("sizes " + c[0] + ", " + c[1], x, end, end == 0 ? c[0] + c[1] : 0,
                end == 0 ? 9 : 2, end == 0 ? 10 : 1);
        }
        int[][] second = {{64, 1, 4}, {1, 64, 4}, {1, Integer.MAX_VALUE, 4}, {64, -1, 2}};
        for (int[] c : second) {
            x.arguments(c[0], c[1], 0);
            dueBoth("sizes " + c[0] + ", " + c[1], x, c[2], 0, 6, 5);
            CHECK.due("the first one is there", x.cell(0, -1), c[0]);
            CHECK.due("the second one is not", x.cell(1, -1), -1);
        }
        RegisterTranslator nine = defined(1, 1, Check.LOAD, 0, Check.NEW, Check.POP,
            Check.GOTO, -4);
        dueBoth("the ninth array", nine, 4, 0, 2, 1);
        CHECK.due("the eighth one", nine.cell(7, -1), 0);
        CHECK.due("the ninth one", nine.cell(8, -1), -1);
        CHECK.due("steps before it", nine.steps(), 8 * 3 + 1);
        RegisterTranslator negative = defined(0, 2, Check.CONST, 8, Check.STORE, 1,
            Check.CONST, 0, Check.NEW, Check.POP, Check.INC, 1, -1, Check.LOAD, 1,
            Check.IFZERO, 4, Check.GOTO, -11, Check.CONST, -1, Check.NEW, Check.POP,
            Check.CONST, 1, Check.RETURN);
        dueBoth("a ninth array with a size below 0", negative, 2, 0, 19, 14);
    }

    private static void indices() {
        RegisterTranslator get = defined(2, 2, Check.LOAD, 0, Check.NEW, Check.LOAD, 1, Check.GET,
            Check.RETURN);
        RegisterTranslator set = defined(2, 2, Check.LOAD, 0, Check.NEW, Check.LOAD, 1,
            Check.CONST, 1, Check.SET, Check.CONST, 4, Check.RETURN);
        int[][] cases = {{3, 0, 0}, {3, 2, 0}, {3, 3, 3}, {3, -1, 3}, {0, 0, 3},
            {3, Integer.MAX_VALUE, 3}, {3, Integer.MIN_VALUE, 3}};
        for (int[] c : cases) {
            get.arguments(c[0], c[1], 0);
            dueBoth("GET " + c[1] + " of " + c[0], get, c[2], 0, c[2] == 0 ? 6 : 5,
                c[2] == 0 ? 6 : 4);
            set.arguments(c[0], c[1], 0);
            dueBoth("SET " + c[1] + " of " + c[0], set, c[2], c[2] == 0 ? 4 : 0,
                c[2] == 0 ? 10 : 7, c[2] == 0 ? 8 : 5);
        }
    }

    private static void cellsOfTheLatestRun() {
        RegisterTranslator x = defined(3, 3, Check.LOAD, 0, Check.NEW, Check.CONST, 1,
            Check.LOAD, 1, Check.SET, Check.CONST, 2, Check.NEW, Check.CONST, 0, Check.LOAD, 2,
            Check.SET, Check.CONST, 0, Check.CONST, 0, Check.DIV, Check.RETURN);
        for (int form = 0; form < 2; form++) {
            x.arguments(3, -77, 88);
            CHECK.due("cells: end", x.run(form == 1, 0, 50), 1);
            int[][] cells = {{0, -1, 3}, {0, 0, 0}, {0, 1, -77}, {0, 2, 0}, {0, 3, 0}, {1, -1, 2},
                {1, 0, 88}, {1, 1, 0}, {1, 2, 0}, {2, -1, -1}, {2, 0, 0}, {-1, -1, -1}, {-1, 0, 0},
                {0, -2, 0}, {1, -2, 0}, {2, -2, 0}, {8, -1, -1}, {8, 0, 0}, {0, 64, 0},
                {0, Integer.MIN_VALUE, 0}, {0, Integer.MAX_VALUE, 0}, {Integer.MIN_VALUE, -1, -1},
                {Integer.MAX_VALUE, -1, -1}, {Integer.MAX_VALUE, 1, 0}};
            for (int[] c : cells) {
                CHECK.due("cell " + c[0] + ", " + c[1], x.cell(c[0], c[1]), c[2]);
            }
            CHECK.due("a bad run", x.run(form == 1, 0, -1), RegisterTranslator.BAD);
            CHECK.due("cells after it", x.cell(0, 1), -77);
            CHECK.due("a run of no steps", x.run(form == 1, 0, 0), 6);
            CHECK.due("its arrays", x.cell(0, -1), -1);
            CHECK.due("its cells", x.cell(0, 1), 0);
            CHECK.due("a run that ends before SET", x.run(form == 1, 0, 2), 6);
            CHECK.due("its size", x.cell(0, -1), 3);
            CHECK.due("its new cells are zeros", x.cell(0, 1), 0);
        }
    }

    private static void arraysAreShared() {
        RegisterTranslator x = defined(0, 2, Check.CONST, 2, Check.NEW, Check.STORE, 0,
            Check.CONST, 3, Check.NEW, Check.LOAD, 0, Check.SWAP, Check.STORE, 1, Check.STORE, 0,
            Check.LOAD, 0, Check.DUP, Check.CONST, 1, Check.CONST, 50, Check.SET,
            Check.CONST, 1, Check.GET, Check.LOAD, 1, Check.LENGTH, Check.ADD, Check.RETURN);
        CHECK.due("stack", x.run(false, 0, 99), 0);
        CHECK.due("stack value", x.value(), 53);
        CHECK.due("registers", x.run(true, 0, 99), 0);
        CHECK.due("registers value", x.value(), 53);
        CHECK.due("cell of the first", x.cell(0, 1), 50);
        CHECK.due("cell of the second", x.cell(1, 1), 0);
    }

    private static void calls() {
        RegisterTranslator x = new RegisterTranslator();
        Check.define(x, 3, 3, Check.LOAD, 0, Check.LOAD, 1, Check.SUB, Check.LOAD, 2, Check.MUL,
            Check.RETURN);
        Check.define(x, 2, 2, Check.CONST, 100, Check.LOAD, 0, Check.LOAD, 1, Check.CONST, 5,
            Check.CALL, 0, Check.ADD, Check.RETURN);
        x.arguments(9, 2, 0);
        CHECK.dueRun("a call", x, false, Check.with(1, 99), 0, 135, 13, 11, 1);
        CHECK.dueRun("a call", x, true, Check.with(1, 99), 0, 135, 14, 11, 1);
        CHECK.dueRun("before the CALL", x, false, Check.with(1, 4), 6, 0, 4, 8, 1);
        CHECK.dueRun("behind the CALL", x, false, Check.with(1, 5), 6, 0, 5, 0, 0);
        CHECK.dueRun("before the inner RETURN", x, false, Check.with(1, 10), 6, 0, 10, 8, 0);
        CHECK.dueRun("behind the inner RETURN", x, false, Check.with(1, 11), 6, 0, 11, 10, 1);
        CHECK.dueRun("before the CALL", x, true, Check.with(1, 4), 6, 0, 4, 5, 1);
        CHECK.dueRun("behind the CALL", x, true, Check.with(1, 5), 6, 0, 5, 0, 0);
        CHECK.dueRun("before the inner RETURN", x, true, Check.with(1, 10), 6, 0, 10, 7, 0);
        CHECK.dueRun("before the result", x, true, Check.with(1, 11), 6, 0, 11, 8, 1);
        CHECK.dueRun("behind the result", x, true, Check.with(1, 12), 6, 0, 12, 9, 1);
    }

    private static void callsThatGoTooDeep() {
        RegisterTranslator x = defined(1, 1, Check.LOAD, 0, Check.IFZERO, 10, Check.LOAD, 0,
            Check.CONST, -1, Check.ADD, Check.CALL, 0, Check.RETURN, Check.CONST, 7, Check.RETURN);
        x.arguments(7, 0, 0);
        dueBoth("eight methods", x, 0, 7, 11, 11);
        CHECK.due("their steps", x.steps(), 7 * (6 + 2) + 4);
        CHECK.due("running", x.running(), 0);
        x.arguments(8, 0, 0);
        dueBoth("nine methods", x, 5, 0, 9, 7);
        CHECK.due("steps before the last call", x.steps(), 7 * 6 + 5);
        RegisterTranslator again = defined(0, 0, Check.CALL, 0, Check.RETURN);
        CHECK.dueRun("nine methods", again, false, Check.with(0, 1000), 5, 0, 7, 0, 0);
        CHECK.dueRun("6 before 5", again, false, Check.with(0, 7), 6, 0, 7, 0, 0);
        CHECK.dueRun("nine methods", again, true, Check.with(0, 1000), 5, 0, 7, 0, 0);
        CHECK.dueRun("6 before 5", again, true, Check.with(0, 7), 6, 0, 7, 0, 0);
    }

    private static void endsInsideACall() {
        RegisterTranslator x = new RegisterTranslator();
        Check.define(x, 1, 2, Check.LOAD, 0, Check.NEW, Check.CONST, 0, Check.LOAD, 0, Check.SET,
            Check.CONST, 1, Check.LOAD, 0, Check.DIV, Check.RETURN);
        Check.define(x, 1, 1, Check.CONST, 50, Check.LOAD, 0, Check.CALL, 0, Check.POP,
            Check.CONST, 3, Check.CALL, 0, Check.ADD, Check.RETURN);
        x.arguments(1, 0, 0);
        CHECK.dueRun("two calls", x, false, Check.with(1, 99), 0, 50, 26, 12, 1);
        CHECK.due("the first call's array", x.cell(0, 0), 1);
        CHECK.due("the second call's array", x.cell(1, -1), 3);
        CHECK.due("its cell", x.cell(1, 0), 3);
        x.arguments(0, 0, 0);
        CHECK.dueRun("an index inside", x, false, Check.with(1, 99), 3, 0, 7, 7, 0);
        CHECK.dueRun("an index inside", x, true, Check.with(1, 99), 3, 0, 7, 5, 0);
        x.arguments(-5, 0, 0);
        CHECK.dueRun("a size inside", x, true, Check.with(1, 99), 2, 0, 4, 1, 0);
        x.arguments(63, 0, 0);
        CHECK.dueRun("room inside", x, true, Check.with(1, 99), 4, 0, 16, 1, 0);
    }

    private static void badRunsChangeNothing() {
        RegisterTranslator x = defined(1, 1, Check.LOAD, 0, Check.RETURN);
        int[][] bad = {{-1, 9}, {1, 9}, {6, 9}, {Integer.MIN_VALUE, 9}, {Integer.MAX_VALUE, 9},
            {0, -1}, {0, 1001}, {0, Integer.MIN_VALUE}, {0, Integer.MAX_VALUE}};
        for (int[] call : bad) {
            CHECK.dueRun("before a run", x, false, call, -1, 0, 0, -1, -1);
            CHECK.dueRun("before a run", x, true, call, -1, 0, 0, -1, -1);
        }
        x.arguments(44, 0, 0);
        CHECK.dueRun("a run", x, false, Check.with(0, 9), 0, 44, 2, 2, 0);
        for (int[] call : bad) {
            CHECK.dueRun("behind a run", x, false, call, -1, 44, 2, 2, 0);
            CHECK.dueRun("behind a run", x, true, call, -1, 44, 2, 2, 0);
        }
        CHECK.dueRun("a run of no steps", x, true, Check.with(0, 0), 6, 0, 0, 0, 0);
        Check.define(x, 0, 0, Check.GOTO, 0);
        CHECK.due("a define leaves the run", x.at(), 0);
        CHECK.dueRun("another method", x, true, Check.with(1, 3), 6, 0, 3, 0, 1);
    }
}
