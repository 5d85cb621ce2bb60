/** Promises 1 to 6: a new object, type, define (what is malformed or refused), fault, reset, methods. */
public final class DefineTest {
    private static final int GOOD = 99;
    private static final Check CHECK = new Check();

    public static void main(String[] args) {
        newObject();
        typeTakesTheLowestBytes();
        typeKeepsToTheLimits();
        defineAnswersTheFirstThatHolds();
        draftIsEmptyAfterwards();
        malformedAtTheFirstOfThree();
        malformedByItsParts();
        refusedByTheStack();
        refusedByKinds();
        refusedByLocals();
        refusedWhereStatesMeet();
        refusedInTheOrderOfLooking();
        faultIsOfTheLatestDefine();
        resetTakesMethodsAndDraftAlone();
        CHECK.end();
    }

    /** Defines a draft on a new object; want is a fault's place, or GOOD. */
    private static void dueDefine(int answer, int fault, int parameters, int locals, int... bytes) {
        RegisterTranslator x = new RegisterTranslator();
        String what = "define " + java.util.Arrays.toString(bytes);
        int wanted = answer == GOOD ? 0 : answer;
        CHECK.due(what, Check.define(x, parameters, locals, bytes), wanted);
        CHECK.due(what + ": fault", x.fault(), answer == GOOD ? -1 : fault);
        CHECK.due(what + ": methods", x.methods(), answer == GOOD ? 1 : 0);
    }

    private static void good(int parameters, int locals, int... bytes) {
        dueDefine(GOOD, -1, parameters, locals, bytes);
    }

    private static void malformed(int place, int parameters, int locals, int... bytes) {
        dueDefine(RegisterTranslator.MALFORMED, place, parameters, locals, bytes);
    }

    private static void refused(int place, int parameters, int locals, int... bytes) {
        dueDefine(RegisterTranslator.REFUSED, place, parameters, locals, bytes);
    }

    private static void newObject() {
        RegisterTranslator x = new RegisterTranslator();
        CHECK.due("new: methods", x.methods(), 0);
        CHECK.due("new: fault", x.fault(), -1);
        CHECK.due("new: value", x.value(), 0);
        CHECK.due("new: steps", x.steps(), 0);
        CHECK.due("new: at", x.at(), -1);
        CHECK.due("new: running", x.running(), -1);
        CHECK.due("new: cell", x.cell(0, 0), 0);
        CHECK.due("new: size", x.cell(0, -1), -1);
        CHECK.due("new: units", x.units(0), -1);
        CHECK.due("new: empty draft", x.define(0, 0), RegisterTranslator.MALFORMED);
        CHECK.due("new: empty draft's fault", x.fault(), 0);
        Check.define(x, 3, 3, Check.LOAD, 0, Check.LOAD, 1, Check.LOAD, 2,
            Check.ADD, Check.ADD, Check.RETURN);
        CHECK.due("new: run", x.run(false, 0, 9), 0);
        CHECK.due("new: arguments are 0", x.value(), 0);
    }

    private static void typeTakesTheLowestBytes() {
        RegisterTranslator x = new RegisterTranslator();
        CHECK.due("three of five bytes", x.type(0x7777_002A_14L, 3), true);
        CHECK.due("its method", x.define(0, 0), 0);
        x.run(false, 0, 9);
        CHECK.due("its value", x.value(), 0x2A);
        CHECK.due("eight bytes", x.type(0x0081_007F_0300_0503L, 8), true);
        CHECK.due("one byte", x.type(0x14, 1), true);
        CHECK.due("their method", x.define(0, 0), 1);
        x.run(false, 1, 9);
        CHECK.due("their value", x.value(), -127 + 127 + 5);
        CHECK.due("all bits", x.type(-1L, 8), true);
        CHECK.due("byte 255", x.define(0, 0), RegisterTranslator.MALFORMED);
        CHECK.due("byte 255 at", x.fault(), 0);
    }

    private static void typeKeepsToTheLimits() {
        RegisterTranslator x = new RegisterTranslator();
        for (int n : new int[] {0, -1, 9, 64, Integer.MIN_VALUE, Integer.MAX_VALUE}) {
            CHECK.due("type n " + n, x.type(0x0014, n), false);
        }
        for (int k = 0; k < 12; k++) {
            CHECK.due("type INC", x.type(0x15_00_01, 3), true);
        }
        CHECK.due("41 bytes", x.type(0x01_00_08_08_14L, 5), false);
        CHECK.due("38 bytes", x.type(0x01_00, 2), true);
        CHECK.due("41 bytes", x.type(0x08_08_14, 3), false);
        CHECK.due("39 bytes", x.type(0x08, 1), true);
        CHECK.due("41 bytes", x.type(0x08_14, 2), false);
        CHECK.due("n Integer.MAX_VALUE", x.type(0x14, Integer.MAX_VALUE), false);
        CHECK.due("40 bytes", x.type(0x14, 1), true);
        CHECK.due("41 bytes", x.type(0x14, 1), false);
        CHECK.due("a method of 40 bytes", x.define(1, 1), 0);
        CHECK.due("its last instruction", x.depth(0, 39), 2);
        CHECK.due("none behind it", x.depth(0, 40), -1);
        x.run(true, 0, 100);
        CHECK.due("its value", x.value(), 12);
    }

    private static void defineAnswersTheFirstThatHolds() {
        RegisterTranslator x = new RegisterTranslator();
        int[][] bad = {{-1, 0}, {4, 4}, {4, 6}, {0, -1}, {1, 0}, {3, 2}, {0, 7}, {3, 7},
            {Integer.MIN_VALUE, 0}, {0, Integer.MAX_VALUE}};
        for (int[] pair : bad) {
            String what = "define " + pair[0] + ", " + pair[1];
            int answer = Check.define(x, pair[0], pair[1], Check.CONST, 1, Check.RETURN);
            CHECK.due(what, answer, RegisterTranslator.BAD);
            CHECK.due(what + " empty", x.define(pair[0], pair[1]), RegisterTranslator.BAD);
        }
        int[][] fine = {{0, 0}, {3, 3}, {0, 6}, {3, 6}, {1, 2}, {2, 2}};
        for (int k = 0; k < fine.length; k++) {
            CHECK.due("methods", x.methods(), k);
            int answer = Check.define(x, fine[k][0], fine[k][1], Check.CONST, 1, Check.RETURN);
            CHECK.due("define " + fine[k][0] + ", " + fine[k][1], answer, k);
        }
        CHECK.due("methods", x.methods(), 6);
        int full = Check.define(x, 0, 0, Check.CONST, 1, Check.RETURN);
        CHECK.due("a seventh", full, RegisterTranslator.FULL);
        CHECK.due("full before malformed", x.define(0, 0), RegisterTranslator.FULL);
        CHECK.due("its fault", x.fault(), -1);
        CHECK.due("bad before full", x.define(4, 4), RegisterTranslator.BAD);
        CHECK.due("methods", x.methods(), 6);
        int both = Check.define(new RegisterTranslator(), 0, 0, Check.ADD, Check.ADD);
        CHECK.due("malformed before refused", both, RegisterTranslator.MALFORMED);
    }

    private static void draftIsEmptyAfterwards() {
        RegisterTranslator x = new RegisterTranslator();
        Check.define(x, 4, 4, Check.CONST, 1, Check.RETURN);
        dueEmptyDraft(x, "BAD");
        Check.define(x, 0, 0, Check.CONST, 1, Check.RETURN, 22);
        dueEmptyDraft(x, "MALFORMED");
        Check.define(x, 0, 0, Check.RETURN);
        dueEmptyDraft(x, "REFUSED");
        for (int k = 0; k < 6; k++) {
            Check.define(x, 0, 0, Check.CONST, 1, Check.RETURN);
        }
        Check.define(x, 0, 0, Check.CONST, 1, Check.RETURN);
        x.reset();
        dueEmptyDraft(x, "FULL");
        Check.define(x, 0, 0, Check.CONST, 1, Check.RETURN);
        dueEmptyDraft(x, "a method");
    }

    private static void dueEmptyDraft(RegisterTranslator x, String after) {
        CHECK.due("empty after " + after, x.define(0, 0), RegisterTranslator.MALFORMED);
        CHECK.due("empty after " + after + ": fault", x.fault(), 0);
    }

    private static void malformedAtTheFirstOfThree() {
        malformed(0, 0, 0);
        malformed(2, 0, 0, Check.LOAD, 0, 22);
        malformed(2, 0, 0, Check.GOTO, 1, Check.CONST);
        malformed(0, 0, 0, Check.LOAD, 0, Check.ADD);
        malformed(3, 0, 0, Check.CONST, 1, Check.RETURN, 255, 22);
    }

    private static void malformedByItsParts() {
        malformed(0, 0, 0, 22);
        malformed(0, 0, 0, 128, 0);
        malformed(2, 0, 1, Check.CONST, 0, Check.INC, 0);
        malformed(2, 0, 1, Check.CONST, 0, Check.INC);
        malformed(1, 0, 0, Check.RETURN, Check.CALL);
        malformed(0, 1, 1, Check.LOAD, 1, Check.RETURN);
        malformed(2, 2, 2, Check.CONST, 0, Check.STORE, 2, Check.GOTO, -4);
        malformed(0, 0, 5, Check.INC, 5, 1, Check.GOTO, -3);
        malformed(0, 3, 6, Check.LOAD, 6, Check.RETURN);
        malformed(0, 3, 6, Check.LOAD, 255, Check.RETURN);
        malformed(0, 0, 0, Check.GOTO, -1);
        malformed(0, 0, 0, Check.GOTO, 2);
        malformed(0, 0, 0, Check.GOTO, 1, Check.RETURN);
        malformed(0, 0, 0, Check.GOTO, 127);
        malformed(2, 0, 0, Check.CONST, 0, Check.IFZERO, 3, Check.GOTO, 0);
        malformed(2, 0, 0, Check.CONST, 0, Check.IFNEG, -3, Check.GOTO, 0);
        malformed(2, 0, 0, Check.CONST, 0, Check.IFLESS, -1, Check.GOTO, 0);
        malformed(0, 0, 0, Check.CALL, 1, Check.RETURN);
        malformed(0, 0, 0, Check.CALL, 255, Check.RETURN);
        malformed(2, 0, 0, Check.CONST, 1, Check.DUP);
        malformed(2, 0, 0, Check.CONST, 1, Check.IFZERO, 0);
        malformed(2, 0, 0, Check.GOTO, 0, Check.LOAD, 0, Check.GOTO, 0);
        int[] long38 = new int[38];
        for (int k = 0; k < 38; k += 2) {
            long38[k] = Check.GOTO;
        }
        malformed(38, 0, 0, and(long38, Check.GOTO, 2));
        good(0, 0, and(long38, Check.GOTO, -38));
        good(0, 0, Check.GOTO, 0);
        good(0, 0, Check.CALL, 0, Check.RETURN);
        good(0, 6, Check.CONST, 1, Check.STORE, 5, Check.LOAD, 5, Check.RETURN);
        good(0, 0, Check.GOTO, 3, Check.ADD, Check.CONST, -1, Check.RETURN);
    }

    private static void refusedByTheStack() {
        for (int operation : new int[] {Check.ADD, Check.SUB, Check.MUL, Check.DIV, Check.REM}) {
            refused(0, 0, 0, operation, Check.RETURN);
            refused(2, 0, 0, Check.CONST, 1, operation, Check.RETURN);
            good(0, 0, Check.CONST, 1, Check.CONST, 1, operation, Check.RETURN);
        }
        for (int operation : new int[] {Check.DUP, Check.POP, Check.SWAP, Check.NEW, Check.GET,
            Check.SET, Check.LENGTH, Check.RETURN}) {
            refused(0, 0, 0, operation, Check.RETURN);
        }
        refused(0, 0, 1, Check.STORE, 0, Check.GOTO, -2);
        refused(0, 0, 0, Check.IFZERO, 2, Check.RETURN);
        refused(0, 0, 0, Check.IFNEG, 2, Check.RETURN);
        refused(2, 0, 0, Check.CONST, 1, Check.IFLESS, 2, Check.RETURN);
        refused(2, 0, 0, Check.CONST, 1, Check.SWAP, Check.RETURN);
        refused(2, 2, 2, Check.CONST, 1, Check.CALL, 0, Check.RETURN);
        good(2, 2, Check.CONST, 1, Check.DUP, Check.CALL, 0, Check.RETURN);
        good(0, 0, Check.CONST, 1, Check.CONST, 1, Check.RETURN);
        overTheLimit();
    }

    private static void overTheLimit() {
        int[] eight = {0, 1, 0, 1, 0, 1, 0, 1, 0, 1, 0, 1, 0, 1, 0, 1};
        good(0, 0, and(eight, Check.RETURN));
        good(0, 0, and(eight, Check.SWAP, Check.RETURN));
        good(0, 0, and(eight, Check.NEW, Check.LENGTH, Check.RETURN));
        good(0, 0, and(eight, Check.NEW, Check.GOTO, 0));
        good(1, 1, and(eight, Check.CALL, 0, Check.RETURN));
        refused(16, 0, 0, and(eight, Check.CONST, 1, Check.RETURN));
        refused(16, 0, 0, and(eight, Check.DUP, Check.RETURN));
        refused(16, 1, 1, and(eight, Check.LOAD, 0, Check.RETURN));
        refused(16, 0, 0, and(eight, Check.CALL, 0, Check.RETURN));
    }

    private static int[] and(int[] head, int... tail) {
        int[] whole = java.util.Arrays.copyOf(head, head.length + tail.length);
        System.arraycopy(tail, 0, whole, head.length, tail.length);
        return whole;
    }

    private static void refusedByKinds() {
        int[] array = {Check.CONST, 1, Check.NEW};
        for (int operation : new int[] {Check.NEW, Check.RETURN}) {
            refused(3, 0, 0, and(array, operation, Check.GOTO, 0));
        }
        refused(3, 0, 0, and(array, Check.IFZERO, 2, Check.GOTO, 0));
        refused(3, 0, 0, and(array, Check.IFNEG, 2, Check.GOTO, 0));
        refused(5, 0, 0, and(array, Check.CONST, 1, Check.IFLESS, 2, Check.GOTO, 0));
        refused(5, 0, 0, and(array, Check.CONST, 1, Check.ADD, Check.RETURN));
        refused(6, 0, 0, and(array, Check.CONST, 1, Check.SWAP, Check.ADD, Check.RETURN));
        refused(3, 1, 1, and(array, Check.CALL, 0, Check.RETURN));
        refused(4, 0, 0, and(array, Check.DUP, Check.GET, Check.RETURN));
        refused(4, 0, 0, Check.CONST, 1, Check.CONST, 1, Check.GET, Check.RETURN);
        refused(2, 0, 0, Check.CONST, 1, Check.LENGTH, Check.RETURN);
        refused(6, 0, 0, Check.CONST, 1, Check.CONST, 1, Check.CONST, 1, Check.SET, Check.GOTO, 0);
        refused(6, 0, 0, and(array, Check.CONST, 0, Check.DUP, Check.GET, Check.RETURN));
        refused(6, 0, 0, and(array, Check.DUP, Check.CONST, 0, Check.SET, Check.GOTO, 0));
        refused(7, 0, 0, and(array, Check.DUP, Check.CONST, 0, Check.SWAP, Check.SET,
            Check.GOTO, 0));
        good(0, 1, and(array, Check.DUP, Check.SWAP, Check.POP, Check.STORE, 0,
            Check.CONST, 1, Check.RETURN));
        good(0, 0, and(array, Check.CONST, 0, Check.CONST, 7, Check.SET, Check.CONST, 1,
            Check.RETURN));
        good(0, 0, and(array, Check.CONST, 0, Check.GET, Check.RETURN));
    }

    private static void refusedByLocals() {
        refused(0, 1, 2, Check.LOAD, 1, Check.RETURN);
        refused(0, 1, 2, Check.INC, 1, 1, Check.GOTO, 0);
        good(1, 2, Check.INC, 0, 1, Check.LOAD, 0, Check.RETURN);
        refused(5, 1, 1, Check.CONST, 1, Check.NEW, Check.STORE, 0, Check.INC, 0, 1, Check.GOTO, 0);
        refused(7, 1, 1, Check.CONST, 1, Check.NEW, Check.STORE, 0, Check.LOAD, 0, Check.RETURN);
    }

    private static void refusedWhereStatesMeet() {
        // one more on the stack each time round
        refused(0, 0, 0, Check.CONST, 1, Check.GOTO, -2);
        // depths 1 and 0 at 6
        refused(6, 1, 1, Check.LOAD, 0, Check.IFZERO, 4, Check.CONST, 1, Check.CONST, 1,
            Check.RETURN);
        // an array and a number at 7
        refused(7, 1, 1, Check.CONST, 1, Check.LOAD, 0, Check.IFZERO, 3, Check.NEW, Check.POP,
            Check.CONST, 1, Check.RETURN);
        // local 1 is a number on one way alone: it may not be loaded, but may be stored
        int[] oneWay = {Check.LOAD, 0, Check.IFZERO, 6, Check.CONST, 1, Check.STORE, 1};
        refused(8, 1, 2, and(oneWay, Check.LOAD, 1, Check.RETURN));
        refused(8, 1, 2, and(oneWay, Check.INC, 1, 1, Check.LOAD, 0, Check.RETURN));
        good(1, 2, and(oneWay, Check.CONST, 2, Check.STORE, 1, Check.LOAD, 1, Check.RETURN));
        // a loop takes the kind of a local away that was fine the first time
        refused(0, 1, 1, Check.LOAD, 0, Check.NEW, Check.STORE, 0, Check.GOTO, -5);
        // nothing stays nothing when a number comes to it later
        good(1, 2, Check.LOAD, 0, Check.IFZERO, 8, Check.CONST, 1, Check.STORE, 1,
            Check.GOTO, -8, Check.LOAD, 0, Check.RETURN);
        refused(10, 1, 2, Check.LOAD, 0, Check.IFZERO, 8, Check.CONST, 1, Check.STORE, 1,
            Check.GOTO, -8, Check.LOAD, 1, Check.RETURN);
    }

    private static void refusedInTheOrderOfLooking() {
        // both ways are refused: at the lower place, whichever was reached first
        refused(4, 1, 1, Check.LOAD, 0, Check.IFZERO, 4, Check.POP, Check.RETURN, Check.ADD,
            Check.RETURN);
        refused(2, 1, 1, Check.GOTO, 4, Check.ADD, Check.RETURN, Check.LOAD, 0, Check.IFZERO, -4,
            Check.POP, Check.RETURN);
        // the state does not fit behind (10) nor at the target (0): behind goes first
        refused(10, 1, 1, Check.LOAD, 0, Check.IFZERO, 8, Check.CONST, 1, Check.CONST, 1,
            Check.IFZERO, -8, Check.CONST, 1, Check.RETURN);
    }

    private static void faultIsOfTheLatestDefine() {
        RegisterTranslator x = new RegisterTranslator();
        Check.define(x, 0, 0, Check.CONST, 1, Check.ADD, Check.RETURN);
        CHECK.due("fault when refused", x.fault(), 2);
        CHECK.due("fault asked again", x.fault(), 2);
        Check.type(x, Check.CONST, 1, Check.RETURN);
        CHECK.due("fault while typing", x.fault(), 2);
        x.reset();
        CHECK.due("fault after reset", x.fault(), 2);
        x.define(0, 9);
        CHECK.due("fault when BAD", x.fault(), -1);
        Check.define(x, 0, 0, Check.CONST, 1, 99);
        CHECK.due("fault when malformed", x.fault(), 2);
        Check.define(x, 0, 0, Check.CONST, 1, Check.RETURN);
        CHECK.due("fault when defined", x.fault(), -1);
    }

    private static void resetTakesMethodsAndDraftAlone() {
        RegisterTranslator x = new RegisterTranslator();
        int[] code = {Check.LOAD, 0, Check.NEW, Check.CONST, 1, Check.LOAD, 1, Check.SET,
            Check.LOAD, 2, Check.RETURN};
        Check.define(x, 3, 3, code);
        x.arguments(2, 30, 400);
        x.run(true, 0, 50);
        Check.type(x, Check.CONST, 1, Check.RETURN);
        x.reset();
        CHECK.due("methods after reset", x.methods(), 0);
        CHECK.due("units after reset", x.units(0), -1);
        CHECK.due("unit after reset", x.unit(0, 0), -1);
        CHECK.due("depth after reset", x.depth(0, 0), -1);
        CHECK.due("state after reset", x.state(0, 0, 0), 0);
        CHECK.due("first after reset", x.first(0, 0), -1);
        CHECK.due("run after reset", x.run(false, 0, 50), RegisterTranslator.BAD);
        CHECK.due("value after reset", x.value(), 400);
        CHECK.due("steps after reset", x.steps(), 7);
        CHECK.due("at after reset", x.at(), 8);
        CHECK.due("running after reset", x.running(), 0);
        CHECK.due("size after reset", x.cell(0, -1), 2);
        CHECK.due("cell after reset", x.cell(0, 1), 30);
        dueEmptyDraft(x, "reset");
        CHECK.due("number 0 again", Check.define(x, 3, 3, code), 0);
        x.run(false, 0, 50);
        CHECK.due("arguments after reset", x.value(), 400);
    }
}
