import java.util.Arrays;

/** The boundaries of VERIFYING: what is popped, 8 on the stack, locals, and where states meet. */
public final class VerifyEdgeTest {
    private static final int WELL = -1;
    private static final Check CHECK = new Check();

    public static void main(String[] args) {
        stateOfInstructionZero();
        stateOfInstructionZeroAfterARefusedOne();
        everyOperationOnEveryStack();
        parametersOfCalls();
        eightOnTheStack();
        storesAndLoadsOfEveryLocal();
        loadOfNothing();
        incOfNoNumber();
        stacksThatMeet();
        localsThatMeet();
        changedStateIsLookedAtAgain();
        oneLocalAfterTheOther();
        unchangedStateIsNot();
        lowestPlaceGoesFirst();
        behindGoesBeforeTheTarget();
        behindGotoAndReturnNothingIsReached();
        CHECK.end();
    }

    private static RegisterTranslator due(int place, int parameters, int locals, int... bytes) {
        RegisterTranslator x = new RegisterTranslator();
        String what = "define " + Arrays.toString(bytes);
        int answer = Check.define(x, parameters, locals, bytes);
        CHECK.due(what, answer, place == WELL ? 0 : RegisterTranslator.REFUSED);
        CHECK.due(what + ": fault", x.fault(), place);
        CHECK.due(what + ": methods", x.methods(), place == WELL ? 1 : 0);
        return x;
    }

    private static void dueStack(RegisterTranslator x, int place, String kinds) {
        CHECK.due("depth at " + place, x.depth(0, place), kinds.length());
        for (int k = 0; k < 8; k++) {
            int want = k < kinds.length() ? kind(kinds.charAt(k)) : 0;
            CHECK.due("stack at " + place + ", " + k, x.state(0, place, 8 + k), want);
        }
    }

    /** The locals from 0 on, and nothing behind them. */
    private static void dueLocals(RegisterTranslator x, int place, String kinds) {
        for (int k = 0; k < 8; k++) {
            int want = k < kinds.length() ? kind(kinds.charAt(k)) : 0;
            CHECK.due("local at " + place + ", " + k, x.state(0, place, k), want);
        }
    }

    private static int kind(char letter) {
        return "-na".indexOf(letter);
    }

    /** Code that pushes a number or an array for each letter. */
    private static int[] pushing(String kinds) {
        int[] code = new int[0];
        for (char letter : kinds.toCharArray()) {
            int[] one = {Check.CONST, 1};
            code = Check.join(code, one, letter == 'a' ? Check.row(Check.NEW) : new int[0]);
        }
        return code;
    }

    private static void stateOfInstructionZero() {
        for (int p = 0; p <= 3; p++) {
            for (int n = p; n <= 6; n++) {
                RegisterTranslator x = due(WELL, p, n, Check.GOTO, 0);
                dueLocals(x, 0, "nnn".substring(0, p));
                dueStack(x, 0, "");
            }
        }
    }

    /** The refused one left arrays in all locals, two on its stack, and 14 reached but not looked at. */
    private static void stateOfInstructionZeroAfterARefusedOne() {
        RegisterTranslator x = new RegisterTranslator();
        int[] arrays = {Check.CONST, 1, Check.NEW, Check.DUP, Check.STORE, 0, Check.STORE, 1};
        int[] refused = {Check.CONST, 1, Check.IFZERO, 4, Check.POP, Check.RETURN, Check.RETURN};
        int answer = Check.define(x, 0, 2, Check.join(arrays, refused));
        CHECK.due("the one before", answer, RegisterTranslator.REFUSED);
        CHECK.due("its fault", x.fault(), 12);
        answer = Check.define(x, 0, 2, Check.join(arrays, Check.row(Check.CONST, 1, Check.DUP,
            Check.LENGTH, Check.RETURN)));
        CHECK.due("the one before", answer, RegisterTranslator.REFUSED);
        CHECK.due("its fault", x.fault(), 11);
        int[] code = Check.join(Check.row(Check.GOTO, 0), Check.times(15, Check.ADD),
            Check.row(Check.RETURN));
        CHECK.due("define", Check.define(x, 0, 2, code), 0);
        dueLocals(x, 0, "--");
        dueStack(x, 0, "");
        CHECK.due("not reached", x.depth(0, 14), -1);
        CHECK.due("units", x.units(0), 2);
    }

    /** Each operation with what it pops (x for both kinds) and what it pushes, on all short stacks. */
    private static void everyOperationOnEveryStack() {
        String[] stacks = {"", "n", "a", "nn", "na", "an", "aa", "nnn", "nna", "nan", "naa", "ann",
            "ana", "aan", "aaa"};
        for (String stack : stacks) {
            for (int operation = Check.ADD; operation <= Check.REM; operation++) {
                dueOn(stack, "nn", "n", operation);
            }
            dueOn(stack, "", "n", Check.CONST, 0);
            dueOn(stack, "x", "", Check.STORE, 0);
            dueOn(stack, "x", "11", Check.DUP);
            dueOn(stack, "x", "", Check.POP);
            dueOn(stack, "xx", "21", Check.SWAP);
            dueOn(stack, "n", "", Check.IFZERO, 2);
            dueOn(stack, "n", "", Check.IFNEG, 2);
            dueOn(stack, "nn", "", Check.IFLESS, 2);
            dueOn(stack, "n", "a", Check.NEW);
            dueOn(stack, "an", "n", Check.GET);
            dueOn(stack, "ann", "", Check.SET);
            dueOn(stack, "a", "n", Check.LENGTH);
            dueOn(stack, "n", null, Check.RETURN);
            dueOn(stack, "", "", Check.GOTO, 2);
        }
    }

    /** A digit in pushed stands for the so-many-th of the popped ones, the lowest being 1. */
    private static void dueOn(String stack, String popped, String pushed, int... instruction) {
        int[] before = pushing(stack);
        int[] code = Check.join(before, instruction, Check.row(Check.GOTO, 0));
        int under = stack.length() - popped.length();
        boolean fits = under >= 0;
        for (int k = 0; fits && k < popped.length(); k++) {
            fits = popped.charAt(k) == 'x' || popped.charAt(k) == stack.charAt(under + k);
        }
        RegisterTranslator x = due(fits ? WELL : before.length, 0, 1, code);
        if (fits && pushed == null) {
            CHECK.due("behind RETURN", x.depth(0, before.length + 1), -1);
        } else if (fits) {
            String after = stack.substring(0, under);
            for (char letter : pushed.toCharArray()) {
                after += letter >= '1' && letter <= '2' ? stack.charAt(under + letter - '1') : letter;
            }
            dueStack(x, before.length + instruction.length, after);
        }
    }

    /** One parameter too few, the right ones, and an array in each place. */
    private static void parametersOfCalls() {
        for (int p = 0; p <= 3; p++) {
            for (String stack : new String[] {"", "n", "a", "nn", "an", "na", "nnn", "ann", "nan",
                "nna", "annn"}) {
                int[] before = pushing(stack);
                boolean fits = stack.endsWith("nnn".substring(0, p));
                RegisterTranslator x = due(fits ? WELL : before.length, p, p,
                    Check.join(before, Check.row(Check.CALL, 0, Check.GOTO, 0)));
                if (fits) {
                    String left = stack.substring(0, stack.length() - p);
                    dueStack(x, before.length + 2, left + "n");
                }
            }
        }
    }

    /** 8 may be there; the push of a ninth is refused, of whatever kind it is. */
    private static void eightOnTheStack() {
        int[] local = {Check.CONST, 1, Check.STORE, 0};
        int[] end = {Check.GOTO, 0};
        for (String seven : new String[] {"nnnnnnn", "nnnnnaa", "annnnnn"}) {
            int[] at7 = Check.join(local, pushing(seven));
            for (int[] push : new int[][] {{Check.CONST, 1}, {Check.LOAD, 0}, {Check.DUP},
                {Check.CALL, 0}}) {
                int[] at8 = Check.join(at7, push);
                char pushed = push[0] == Check.DUP ? seven.charAt(6) : 'n';
                dueStack(due(WELL, 0, 1, Check.join(at8, end)), at8.length, seven + pushed);
                due(at8.length, 0, 1, Check.join(at8, push, end));
            }
        }
        eightArePoppedFrom();
    }

    /** With 8 on the stack, what pushes no more than it pops is not refused. */
    private static void eightArePoppedFrom() {
        dueAtEight("nnnnnnnn", Check.ADD, Check.SUB, Check.MUL, Check.DIV, Check.REM, Check.POP,
            Check.SWAP, Check.NEW, Check.RETURN);
        dueAtEight("nnnnnnan", Check.GET, Check.POP, Check.SWAP);
        dueAtEight("nnnnnann", Check.SET);
        dueAtEight("nnnnnnna", Check.LENGTH, Check.POP, Check.SWAP);
        int[] at8 = pushing("nnnnnnnn");
        due(WELL, 0, 1, Check.join(at8, Check.row(Check.STORE, 0, Check.GOTO, 0)));
        due(WELL, 0, 0, Check.join(at8, Check.row(Check.IFZERO, 2, Check.IFNEG, 2, Check.GOTO, 0)));
        due(WELL, 0, 0, Check.join(at8, Check.row(Check.IFLESS, 2, Check.GOTO, 0)));
        due(WELL, 1, 1, Check.join(at8, Check.row(Check.INC, 0, 1, Check.GOTO, 0)));
        due(16, 0, 0, Check.join(at8, Check.row(Check.CALL, 0, Check.GOTO, 0)));
        for (int p = 1; p <= 3; p++) {
            due(WELL, p, p, Check.join(at8, Check.row(Check.CALL, 0, Check.GOTO, 0)));
        }
    }

    private static void dueAtEight(String stack, int... operations) {
        for (int operation : operations) {
            due(WELL, 0, 0, Check.join(pushing(stack), Check.row(operation, Check.GOTO, 0)));
        }
    }

    private static void storesAndLoadsOfEveryLocal() {
        for (int k = 0; k < 6; k++) {
            for (char letter : new char[] {'n', 'a'}) {
                int[] before = pushing("" + letter);
                RegisterTranslator x = due(WELL, 0, 6, Check.join(before,
                    Check.row(Check.STORE, k, Check.LOAD, k, Check.GOTO, 0)));
                dueLocals(x, before.length + 2, "-----".substring(0, k) + letter);
                dueStack(x, before.length + 2, "");
                dueLocals(x, before.length + 4, "-----".substring(0, k) + letter);
                dueStack(x, before.length + 4, "" + letter);
            }
        }
    }

    private static void loadOfNothing() {
        for (int p = 0; p <= 3; p++) {
            for (int k = 0; k < 6; k++) {
                due(k < p ? WELL : 0, p, 6, Check.LOAD, k, Check.RETURN);
            }
        }
    }

    private static void incOfNoNumber() {
        for (int p = 0; p <= 3; p++) {
            for (int k = 0; k < 6; k++) {
                due(k < p ? WELL : 0, p, 6, Check.INC, k, 1, Check.GOTO, 0);
            }
        }
        int[] array = {Check.CONST, 1, Check.NEW, Check.STORE, 0};
        int[] number = {Check.CONST, 1, Check.STORE, 0};
        int[] inc = {Check.INC, 0, 1, Check.GOTO, 0};
        due(5, 1, 1, Check.join(array, inc));
        due(WELL, 0, 1, Check.join(number, inc));
        due(WELL, 0, 1, Check.join(array, number, inc));
        due(9, 0, 1, Check.join(number, array, inc));
    }

    /** One way pushes first, the other second; they come together in a GOTO that goes to itself. */
    private static void stacksThatMeet() {
        String[] stacks = {"", "n", "a", "nn", "na", "an", "aa", "nnn"};
        for (String one : stacks) {
            for (String other : stacks) {
                int[] fall = pushing(one);
                int[] jumped = pushing(other);
                int[] head = {Check.LOAD, 0, Check.IFZERO, 4 + fall.length};
                int[] across = {Check.GOTO, 2 + jumped.length};
                int meeting = head.length + fall.length + across.length + jumped.length;
                int[] code = Check.join(head, fall, across, jumped, Check.row(Check.GOTO, 0));
                RegisterTranslator x = due(one.equals(other) ? WELL : meeting, 1, 1, code);
                if (one.equals(other)) {
                    dueStack(x, meeting, one);
                }
            }
        }
    }

    private static void localsThatMeet() {
        for (char one : "-na".toCharArray()) {
            for (char other : "-na".toCharArray()) {
                for (int k = 1; k < 6; k++) {
                    dueLocalsMet(one, other, k);
                }
            }
        }
        // local 0 too: a number on one way, an array on the other
        int[] code = {Check.LOAD, 1, Check.IFZERO, 7, Check.CONST, 1, Check.NEW, Check.STORE, 0};
        RegisterTranslator x = due(WELL, 2, 2, Check.join(code, Check.row(Check.GOTO, 0)));
        dueLocals(x, 4, "nn");
        dueLocals(x, 9, "-n");
        due(9, 2, 2, Check.join(code, Check.row(Check.LOAD, 0, Check.GOTO, 0)));
    }

    /** The way on which the jump is not done goes first. */
    private static void dueLocalsMet(char one, char other, int k) {
        int[] fall = storing(one, k);
        int[] jumped = storing(other, k);
        int[] head = {Check.LOAD, 0, Check.IFZERO, 4 + fall.length};
        int[] across = {Check.GOTO, 2 + jumped.length};
        int meeting = head.length + fall.length + across.length + jumped.length;
        int[] code = Check.join(head, fall, across, jumped);
        RegisterTranslator x = due(WELL, 1, 6, Check.join(code, Check.row(Check.GOTO, 0)));
        char met = one == other ? one : '-';
        dueLocals(x, meeting, "n----".substring(0, k) + met);
        due(met == '-' ? meeting : WELL, 1, 6, Check.join(code, Check.row(Check.LOAD, k, Check.POP,
            Check.GOTO, 0)));
        due(met == 'n' ? WELL : meeting, 1, 6, Check.join(code, Check.row(Check.INC, k, 1,
            Check.GOTO, 0)));
    }

    private static int[] storing(char letter, int k) {
        return letter == '-' ? new int[0] : Check.join(pushing("" + letter),
            Check.row(Check.STORE, k));
    }

    /** A loop comes back with another kind in a local: the states in it, and what is refused. */
    private static void changedStateIsLookedAtAgain() {
        int[] loop = {Check.LOAD, 0, Check.IFZERO, 9, Check.LOAD, 0, Check.NEW, Check.STORE, 1,
            Check.GOTO, -9, Check.LOAD, 0, Check.RETURN};
        RegisterTranslator x = due(WELL, 2, 2, loop);
        dueLocals(x, 0, "n-");
        dueLocals(x, 2, "n-");
        dueLocals(x, 4, "n-");
        dueLocals(x, 7, "n-");
        dueLocals(x, 9, "na");
        dueLocals(x, 11, "n-");
        dueLocals(x, 13, "n-");
        // the LOAD of local 1 was fine when it was looked at first
        due(2, 2, 2, Check.LOAD, 0, Check.LOAD, 1, Check.IFLESS, 9, Check.LOAD, 0, Check.NEW,
            Check.STORE, 1, Check.GOTO, -11, Check.LOAD, 0, Check.LOAD, 0, Check.RETURN);
    }

    /** 40 bytes: three loops to 4, each of which takes another local, so that 4 is new four times. */
    private static void oneLocalAfterTheOther() {
        int[] code = {Check.CONST, 1, Check.STORE, 3};
        for (int k = 1; k <= 3; k++) {
            code = Check.join(code, Check.row(Check.LOAD, 0, Check.IFZERO, 9, Check.CONST, 1,
                Check.NEW, Check.STORE, k, Check.GOTO, 2 - 11 * k));
        }
        RegisterTranslator x = due(WELL, 3, 4, Check.join(code, Check.row(Check.LOAD, 0,
            Check.RETURN)));
        dueLocals(x, 0, "nnn-");
        dueLocals(x, 4, "n---");
        dueLocals(x, 13, "na--");
        dueLocals(x, 24, "n-a-");
        dueLocals(x, 35, "n--a");
        dueLocals(x, 37, "n---");
        for (int k = 1; k <= 3; k++) {
            due(37, 3, 4, Check.join(code, Check.row(Check.LOAD, k, Check.RETURN)));
        }
    }

    /** A local that has nothing already, and one with the same kind, change nothing: it ends. */
    private static void unchangedStateIsNot() {
        RegisterTranslator x = due(WELL, 1, 2, Check.INC, 0, 1, Check.CONST, 1, Check.STORE, 1,
            Check.GOTO, -7);
        dueLocals(x, 0, "n-");
        dueLocals(x, 7, "nn");
        x = due(WELL, 1, 1, Check.GOTO, 0);
        dueLocals(x, 0, "n");
    }

    /** Both 4 and 6 are new, and both would be refused. */
    private static void lowestPlaceGoesFirst() {
        due(4, 1, 1, Check.LOAD, 0, Check.IFZERO, 4, Check.POP, Check.RETURN, Check.POP,
            Check.RETURN);
        due(2, 1, 1, Check.GOTO, 4, Check.POP, Check.RETURN, Check.LOAD, 0, Check.IFZERO, -4,
            Check.POP, Check.RETURN);
        // 8 is new, but 2 and what comes behind it are lower, and 6 is refused
        due(6, 1, 1, Check.LOAD, 0, Check.IFZERO, 6, Check.CONST, 1, Check.LENGTH, Check.RETURN,
            Check.POP, Check.RETURN);
    }

    /** At 10 an IFZERO with one too many on the stack: 12 is reached by a jump with none, 0 too. */
    private static void behindGoesBeforeTheTarget() {
        due(12, 1, 1, Check.LOAD, 0, Check.IFZERO, 10, Check.INC, 0, 1, Check.CONST, 1, Check.DUP,
            Check.IFZERO, -10, Check.LOAD, 0, Check.RETURN);
        // behind it all is well, so it is refused at the target
        due(0, 1, 1, Check.CONST, 1, Check.DUP, Check.IFZERO, -3, Check.RETURN);
    }

    private static void behindGotoAndReturnNothingIsReached() {
        RegisterTranslator x = due(WELL, 0, 0, Check.GOTO, 3, Check.ADD, Check.CONST, 1,
            Check.RETURN, Check.ADD, Check.RETURN);
        for (int place : new int[] {2, 6, 7}) {
            CHECK.due("depth at " + place, x.depth(0, place), -1);
            CHECK.due("first at " + place, x.first(0, place), -1);
        }
        dueStack(x, 3, "");
        dueStack(x, 5, "n");
    }
}
