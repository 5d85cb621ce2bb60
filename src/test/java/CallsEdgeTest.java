/**
 * The boundaries of what is asked of an object, promise by promise, and that a call that was refused
 * leaves as it was what the document says stays.
 */
public final class CallsEdgeTest {
    private static final Check CHECK = new Check();
    private static final int[] ONE = {Check.CONST, 1, Check.RETURN};
    /** Makes an array of size local 0 with local 1 in cell 0, and returns local 2. */
    private static final int[] KEEPING = {Check.LOAD, 0, Check.NEW, Check.CONST, 0, Check.LOAD, 1,
        Check.SET, Check.LOAD, 2, Check.RETURN};

    public static void main(String[] args) {
        newObject();
        parametersAndLocals();
        sixMethods();
        firstOfTheAnswers();
        refusedDefineLeavesTheRest();
        faultAtTheEnds();
        faultOfTheLatestDefine();
        resetOfNoneAndOfSix();
        resetLeavesTheRest();
        placesOfAMethod();
        slotsOfAState();
        methodsThatAreNotThere();
        argumentsOfRuns();
        badRuns();
        badRunLeavesTheRest();
        noBudgetIsARun();
        whatEachEndLeavesBehind();
        cellsAtTheEnds();
        atTheLastCall();
        CHECK.end();
    }

    /** A method that keeps an array, another one, arguments and a run behind it. */
    private static RegisterTranslator used() {
        RegisterTranslator x = new RegisterTranslator();
        Check.define(x, 3, 4, KEEPING);
        Check.define(x, 0, 0, ONE);
        x.arguments(2, 30, 400);
        x.run(true, 0, 50);
        return x;
    }

    private static void dueSame(String what, RegisterTranslator x, String before) {
        String after = Snapshot.of(x);
        if (!after.equals(before)) {
            System.out.println(what + ": before " + before);
            System.out.println(what + ": after " + after);
        }
        CHECK.due(what + " leaves the rest", after.equals(before), true);
    }

    private static void dueKeptArguments(String what, RegisterTranslator x) {
        CHECK.due(what + ": run", x.run(false, 0, 50), 0);
        CHECK.due(what + ": third argument", x.value(), 400);
        CHECK.due(what + ": first argument", x.cell(0, -1), 2);
        CHECK.due(what + ": second argument", x.cell(0, 0), 30);
    }

    private static void newObject() {
        RegisterTranslator x = new RegisterTranslator();
        CHECK.due("methods", x.methods(), 0);
        CHECK.due("fault", x.fault(), -1);
        CHECK.due("value", x.value(), 0);
        CHECK.due("steps", x.steps(), 0);
        CHECK.due("at", x.at(), -1);
        CHECK.due("running", x.running(), -1);
        for (int m = -1; m <= 6; m++) {
            CHECK.due("units " + m, x.units(m), -1);
            CHECK.due("unit " + m, x.unit(m, 0), -1);
            CHECK.due("depth " + m, x.depth(m, 0), -1);
            CHECK.due("first " + m, x.first(m, 0), -1);
            CHECK.due("state " + m, x.state(m, 0, 0), 0);
            CHECK.due("run " + m, x.run(false, m, 0), RegisterTranslator.BAD);
            CHECK.due("size " + m, x.cell(m, -1), -1);
            CHECK.due("cell " + m, x.cell(m, 0), 0);
        }
        CHECK.due("an empty draft", x.define(0, 0), RegisterTranslator.MALFORMED);
        CHECK.due("its fault", x.fault(), 0);
        Check.define(x, 3, 3, KEEPING);
        CHECK.due("a run with arguments 0", x.run(false, 0, 50), 3);
        CHECK.due("its array", x.cell(0, -1), 0);
    }

    /** 0 to 3 parameters, from so many to 6 locals. */
    private static void parametersAndLocals() {
        int[] numbers = {Check.LEAST, -2, -1, 0, 1, 2, 3, 4, 5, 6, 7, 8, Check.MOST};
        for (int p : numbers) {
            for (int n : numbers) {
                boolean fine = p >= 0 && p <= 3 && n >= p && n <= 6;
                RegisterTranslator x = new RegisterTranslator();
                int answer = Check.define(x, p, n, ONE);
                CHECK.due("define " + p + ", " + n, answer, fine ? 0 : RegisterTranslator.BAD);
                CHECK.due("define " + p + ", " + n + ": methods", x.methods(), fine ? 1 : 0);
                CHECK.due("define " + p + ", " + n + ": fault", x.fault(), -1);
                CHECK.due("define " + p + ", " + n + ": register", x.unit(0, 1),
                    fine ? 0x000F + n * 0x100 : -1);
            }
        }
    }

    private static void sixMethods() {
        RegisterTranslator x = new RegisterTranslator();
        for (int k = 0; k < 6; k++) {
            CHECK.due("methods", x.methods(), k);
            CHECK.due("define " + k, Check.define(x, 0, 0, Check.CONST, k, Check.RETURN), k);
        }
        String before = Snapshot.of(x);
        for (int k = 0; k < 3; k++) {
            CHECK.due("a seventh", Check.define(x, 0, 0, ONE), RegisterTranslator.FULL);
            CHECK.due("methods", x.methods(), 6);
        }
        dueSame("FULL", x, before);
        for (int k = 0; k < 6; k++) {
            CHECK.due("run " + k, x.run(k % 2 == 0, k, 9), 0);
            CHECK.due("value " + k, x.value(), k);
            CHECK.due("running " + k, x.running(), k);
        }
    }

    /** BAD, then FULL, then MALFORMED, then REFUSED, each with all that come behind it. */
    private static void firstOfTheAnswers() {
        RegisterTranslator x = new RegisterTranslator();
        CHECK.due("refused", Check.define(x, 0, 0, Check.RETURN), RegisterTranslator.REFUSED);
        CHECK.due("malformed", Check.define(x, 0, 0, Check.POP), RegisterTranslator.MALFORMED);
        CHECK.due("bad", Check.define(x, 4, 4, Check.POP), RegisterTranslator.BAD);
        CHECK.due("bad and empty", x.define(0, 7), RegisterTranslator.BAD);
        for (int k = 0; k < 5; k++) {
            Check.define(x, 0, 0, ONE);
        }
        CHECK.due("refused with 5", Check.define(x, 0, 0, Check.RETURN), RegisterTranslator.REFUSED);
        CHECK.due("malformed with 5", Check.define(x, 0, 0, Check.POP), RegisterTranslator.MALFORMED);
        Check.define(x, 0, 0, ONE);
        CHECK.due("full", Check.define(x, 0, 0, Check.RETURN), RegisterTranslator.FULL);
        CHECK.due("full", Check.define(x, 0, 0, Check.POP), RegisterTranslator.FULL);
        CHECK.due("full and empty", x.define(0, 0), RegisterTranslator.FULL);
        CHECK.due("bad and full", Check.define(x, -1, 0, Check.POP), RegisterTranslator.BAD);
        CHECK.due("bad and full", Check.define(x, 2, 1, ONE), RegisterTranslator.BAD);
    }

    private static void refusedDefineLeavesTheRest() {
        int[][] refused = {{4, 4, 0, 0}, {0, 0, 22, 0}, {0, 0, Check.POP, Check.RETURN}};
        int[] answers = {RegisterTranslator.BAD, RegisterTranslator.MALFORMED,
            RegisterTranslator.REFUSED};
        for (int k = 0; k < 3; k++) {
            RegisterTranslator x = used();
            String before = Snapshot.of(x);
            int[] call = refused[k];
            CHECK.due("define", Check.define(x, call[0], call[1], call[2], call[3]), answers[k]);
            dueSame("define " + answers[k], x, before);
            CHECK.due("its units", x.units(2), -1);
            CHECK.due("its depth", x.depth(2, 0), -1);
            CHECK.due("a run of it", x.run(false, 2, 9), RegisterTranslator.BAD);
            dueKeptArguments("define " + answers[k], x);
            CHECK.due("the next number", Check.define(x, 0, 0, ONE), 2);
        }
        RegisterTranslator full = used();
        for (int k = 2; k < 6; k++) {
            CHECK.due("method " + k, Check.define(full, 0, 0, ONE), k);
        }
        String before = Snapshot.of(full);
        CHECK.due("define", Check.define(full, 1, 1, Check.GOTO, 0), RegisterTranslator.FULL);
        dueSame("FULL", full, before);
        CHECK.due("the sixth method", full.unit(5, 0), 0x1012);
        dueKeptArguments("FULL", full);
    }

    /** The lowest and the highest place that can be told. */
    private static void faultAtTheEnds() {
        int[] dups = Check.join(Check.row(Check.CONST, 1), Check.times(18, Check.DUP, Check.POP));
        RegisterTranslator x = new RegisterTranslator();
        Check.define(x, 0, 0, 22);
        CHECK.due("malformed at 0", x.fault(), 0);
        Check.define(x, 0, 0, Check.join(dups, Check.row(Check.POP, 22)));
        CHECK.due("malformed at 39", x.fault(), 39);
        Check.define(x, 0, 0, Check.RETURN);
        CHECK.due("refused at 0", x.fault(), 0);
        int[] popped = Check.join(dups, Check.row(Check.POP, Check.RETURN));
        CHECK.due("40 bytes", Check.define(x, 0, 0, popped), RegisterTranslator.REFUSED);
        CHECK.due("refused at 39", x.fault(), 39);
    }

    private static void faultOfTheLatestDefine() {
        RegisterTranslator x = new RegisterTranslator();
        int[] late = {Check.CONST, 1, Check.ADD, Check.RETURN};
        Check.define(x, 0, 0, late);
        CHECK.due("refused", x.fault(), 2);
        Check.define(x, 0, 0, ONE);
        CHECK.due("a method after it", x.fault(), -1);
        Check.define(x, 0, 0, late);
        x.define(-1, 0);
        CHECK.due("BAD after it", x.fault(), -1);
        Check.define(x, 0, 0, Check.CONST, 1, Check.RETURN, 22);
        CHECK.due("malformed", x.fault(), 3);
        x.type(0, 9);
        x.run(false, 9, 9);
        x.run(false, 0, 9);
        CHECK.due("other calls leave it", x.fault(), 3);
        x.reset();
        CHECK.due("reset leaves it", x.fault(), 3);
        for (int k = 0; k < 6; k++) {
            Check.define(x, 0, 0, ONE);
        }
        CHECK.due("FULL", x.define(0, 0), RegisterTranslator.FULL);
        CHECK.due("FULL has none", x.fault(), -1);
        x.reset();
        x.define(0, 0);
        CHECK.due("empty", x.fault(), 0);
        x.reset();
        CHECK.due("empty, after reset", x.fault(), 0);
    }

    private static void resetOfNoneAndOfSix() {
        RegisterTranslator x = new RegisterTranslator();
        x.reset();
        CHECK.due("reset of none", x.methods(), 0);
        CHECK.due("its fault", x.fault(), -1);
        CHECK.due("its at", x.at(), -1);
        for (int round = 0; round < 3; round++) {
            for (int k = 0; k < 6; k++) {
                int number = Check.define(x, 0, 0, Check.CONST, 2 * k, Check.DUP, Check.RETURN);
                CHECK.due("a number again", number, k);
                CHECK.due("its units", x.units(k), 2 * k > 7 ? 4 : 3);
            }
            CHECK.due("full again", Check.define(x, 0, 0, ONE), RegisterTranslator.FULL);
            x.reset();
            CHECK.due("methods", x.methods(), 0);
            for (int m = 0; m < 6; m++) {
                CHECK.due("units", x.units(m), -1);
                CHECK.due("depth", x.depth(m, 0), -1);
                CHECK.due("run", x.run(true, m, 9), RegisterTranslator.BAD);
            }
        }
    }

    private static void resetLeavesTheRest() {
        RegisterTranslator x = used();
        String before = Snapshot.of(x);
        String run = before.substring(before.indexOf("run"));
        x.reset();
        String after = Snapshot.of(x);
        CHECK.due("reset leaves the run: " + after, after.endsWith(run), true);
        CHECK.due("the run's value", x.value(), 400);
        CHECK.due("the run's array", x.cell(0, 0), 30);
        Check.define(x, 3, 4, KEEPING);
        dueKeptArguments("reset", x);
    }

    /** Places -1 to 40 of the longest method, which has instructions of one, two and three bytes. */
    private static void placesOfAMethod() {
        int[] code = Check.join(Check.times(12, Check.INC, 0, 1), Check.row(Check.LOAD, 0, Check.DUP,
            Check.RETURN));
        RegisterTranslator x = new RegisterTranslator();
        CHECK.due("define", Check.define(x, 1, 1, code), 0);
        for (int place = -2; place <= 42; place++) {
            int depth = place < 0 || place > 39 ? -1 : place == 39 ? 2 : place == 38 ? 1 : 0;
            boolean inside = place == 37 || place < 36 && place % 3 != 0;
            CHECK.due("depth " + place, x.depth(0, place), inside ? -1 : depth);
            CHECK.due("state " + place, x.state(0, place, 0), inside || depth < 0 ? 0 : 1);
            int first = place < 36 ? place / 3 * 2 : place == 36 ? 24 : place - 13;
            CHECK.due("first " + place, x.first(0, place), inside || depth < 0 ? -1 : first);
        }
        for (int place : new int[] {Check.LEAST, -40, 80, 256, Check.MOST}) {
            CHECK.due("depth " + place, x.depth(0, place), -1);
            CHECK.due("state " + place, x.state(0, place, 0), 0);
            CHECK.due("first " + place, x.first(0, place), -1);
        }
    }

    /** For 1 to 6 locals and 0 to 8 on the stack: each slot from -1 to 16, and far ones. */
    private static void slotsOfAState() {
        for (int n = 1; n <= 6; n++) {
            RegisterTranslator x = new RegisterTranslator();
            int[] code = {Check.CONST, 0, Check.NEW, Check.STORE, n - 1};
            Check.define(x, 0, n, Check.join(code, Check.times(8, Check.CONST, 0), Check.row(
                Check.NEW, Check.GOTO, 0)));
            for (int d = 0; d <= 8; d++) {
                for (int slot = -1; slot <= 16; slot++) {
                    int want = slot == n - 1 ? 2 : slot >= 8 && slot < 8 + d ? 1 : 0;
                    String what = n + " locals, " + d + " stacked, slot " + slot;
                    CHECK.due(what, x.state(0, 5 + 2 * d, slot), want);
                }
                for (int slot : new int[] {Check.LEAST, -8, 24, 32, 40, Check.MOST}) {
                    CHECK.due("slot " + slot, x.state(0, 5 + 2 * d, slot), 0);
                }
            }
            CHECK.due("an array on top", x.state(0, 22, 15), 2);
            CHECK.due("a number below it", x.state(0, 22, 14), 1);
            CHECK.due("a place inside", x.state(0, 6, 8), 0);
            CHECK.due("no such place", x.state(0, 40, n - 1), 0);
        }
    }

    private static void methodsThatAreNotThere() {
        RegisterTranslator x = used();
        for (int m : new int[] {Check.LEAST, -2, -1, 2, 3, 5, 6, 7, 256, Check.MOST}) {
            CHECK.due("depth of " + m, x.depth(m, 0), -1);
            CHECK.due("state of " + m, x.state(m, 0, 0), 0);
            CHECK.due("first of " + m, x.first(m, 0), -1);
            CHECK.due("units of " + m, x.units(m), -1);
            CHECK.due("unit of " + m, x.unit(m, 0), -1);
        }
        CHECK.due("the last one that is there", x.units(1), 2);
    }

    /** As many as there are parameters, whatever number they are, from the next run on. */
    private static void argumentsOfRuns() {
        RegisterTranslator x = new RegisterTranslator();
        Check.define(x, 0, 0, Check.CONST, 5, Check.RETURN);
        for (int p = 1; p <= 3; p++) {
            Check.define(x, p, p, Check.LOAD, p - 1, Check.RETURN);
        }
        int[][] all = {{0, 0, 0}, {1, 2, 3}, {Check.LEAST, Check.MOST, -1}, {-1, Check.LEAST, Check.MOST}};
        for (int[] given : all) {
            x.run(true, 3, 9);
            int before = x.value();
            x.arguments(given[0], given[1], given[2]);
            CHECK.due("the latest run", x.value(), before);
            for (boolean registers : new boolean[] {false, true}) {
                for (int p = 0; p <= 3; p++) {
                    CHECK.due("run " + p, x.run(registers, p, 9), 0);
                    CHECK.due("value " + p, x.value(), p == 0 ? 5 : given[p - 1]);
                }
            }
        }
    }

    private static void badRuns() {
        RegisterTranslator x = new RegisterTranslator();
        for (int count = 0; count <= 6; count++) {
            for (int m : new int[] {Check.LEAST, -1, 0, count - 1, count, 5, 6, Check.MOST}) {
                int want = m >= 0 && m < count ? 0 : RegisterTranslator.BAD;
                CHECK.due(count + " methods: run " + m, x.run(count % 2 == 0, m, 2), want);
            }
            if (count < 6) {
                Check.define(x, 0, 0, ONE);
            }
        }
        for (int budget : new int[] {Check.LEAST, -1000, -1, 0, 1, 2, 999, 1000, 1001, 1002, 66536,
            Check.MOST}) {
            int want = budget < 0 || budget > 1000 ? RegisterTranslator.BAD : budget < 2 ? 6 : 0;
            CHECK.due("budget " + budget, x.run(false, 0, budget), want);
            CHECK.due("budget " + budget, x.run(true, 0, budget), want);
        }
    }

    private static void badRunLeavesTheRest() {
        int[][] bad = {{-1, 9}, {2, 9}, {Check.MOST, 9}, {Check.LEAST, 9}, {0, -1}, {0, 1001},
            {0, Check.LEAST}, {0, Check.MOST}, {2, 1001}};
        for (int[] call : bad) {
            for (boolean registers : new boolean[] {false, true}) {
                RegisterTranslator x = used();
                String before = Snapshot.of(x);
                int answer = x.run(registers, call[0], call[1]);
                CHECK.due("run " + call[0] + ", " + call[1], answer, RegisterTranslator.BAD);
                dueSame("run " + call[0] + ", " + call[1], x, before);
                dueKeptArguments("a bad run", x);
            }
        }
    }

    /** A budget of 0 is no refusal: it is the latest run then, and has no arrays. */
    private static void noBudgetIsARun() {
        for (boolean registers : new boolean[] {false, true}) {
            for (int m = 0; m < 2; m++) {
                RegisterTranslator x = used();
                CHECK.dueRun("no budget", x, registers, Check.with(m, 0), 6, 0, 0, 0, m);
                CHECK.due("no array", x.cell(0, -1), -1);
                CHECK.due("no cell", x.cell(0, 0), 0);
            }
        }
    }

    /** value, steps, at and running behind a run of each kind that follows one that returned 400. */
    private static void whatEachEndLeavesBehind() {
        // method, arguments; how it ends, value, steps, place, unit, running
        int[][] runs = {{0, 1, 5, 400, 0, 400, 7, 10, 8, 0}, {1, 0, 0, 7, 1, 0, 2, 4, 2, 1},
            {0, -1, 0, 7, 2, 0, 1, 2, 1, 0}, {0, 0, 0, 7, 3, 0, 4, 7, 5, 0},
            {0, 65, 0, 7, 4, 0, 1, 2, 1, 0}, {2, 0, 0, 0, 5, 0, 7, 0, 0, 2}};
        for (boolean registers : new boolean[] {false, true}) {
            RegisterTranslator x = new RegisterTranslator();
            Check.define(x, 3, 3, KEEPING);
            Check.define(x, 3, 3, Check.LOAD, 2, Check.LOAD, 1, Check.DIV, Check.RETURN);
            Check.define(x, 0, 0, Check.CALL, 2, Check.RETURN);
            for (int[] run : runs) {
                x.arguments(1, 5, 400);
                CHECK.due("the run before", x.run(!registers, 0, 50), 0);
                x.arguments(run[1], run[2], run[3]);
                int at = registers ? run[8] : run[7];
                CHECK.dueRun("end " + run[4], x, registers, Check.with(run[0], 50), run[4], run[5],
                    run[6], at, run[9]);
            }
        }
    }

    private static void cellsAtTheEnds() {
        RegisterTranslator x = new RegisterTranslator();
        Check.define(x, 3, 3, Check.CONST, 0, Check.NEW, Check.LOAD, 0, Check.NEW, Check.DUP,
            Check.CONST, 0, Check.LOAD, 1, Check.SET, Check.LOAD, 0, Check.CONST, 1, Check.SUB,
            Check.LOAD, 2, Check.SET, Check.CONST, 1, Check.NEW, Check.LENGTH, Check.RETURN);
        for (boolean registers : new boolean[] {false, true}) {
            x.arguments(63, Check.LEAST, Check.MOST);
            CHECK.due("run", x.run(registers, 0, 50), 0);
            int[][] cells = {{0, -1, 0}, {0, 0, 0}, {0, -2, 0}, {1, -1, 63}, {1, 0, Check.LEAST},
                {1, 1, 0}, {1, 61, 0}, {1, 62, Check.MOST}, {1, 63, 0}, {1, 64, 0}, {1, -2, 0},
                {1, Check.LEAST, 0}, {1, Check.MOST, 0}, {2, -1, 1}, {2, 0, 0}, {2, 1, 0}, {3, -1, -1},
                {3, 0, 0}, {3, -2, 0}, {7, -1, -1}, {8, -1, -1}, {8, 0, 0}, {9, -1, -1}, {-1, -1, -1},
                {-1, 0, 0}, {-1, -2, 0}, {Check.LEAST, -1, -1}, {Check.LEAST, 0, 0},
                {Check.MOST, -1, -1}, {Check.MOST, 0, 0}, {Check.MOST, Check.MOST, 0}};
            for (int[] c : cells) {
                CHECK.due("cell " + c[0] + ", " + c[1], x.cell(c[0], c[1]), c[2]);
            }
        }
    }

    /** An object is good for 512 calls: the last of them is answered as the first is. */
    private static void atTheLastCall() {
        RegisterTranslator x = used();
        int calls = KEEPING.length + 1 + ONE.length + 1 + 2;
        for (; calls < 509; calls++) {
            x.run(calls % 2 == 0, 0, 50);
        }
        CHECK.due("call 510", x.run(true, 0, 50), 0);
        CHECK.due("call 511", x.cell(0, 0), 30);
        CHECK.due("call 512", x.value(), 400);
    }
}
