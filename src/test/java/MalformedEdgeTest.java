import java.util.Arrays;

/** The boundaries of when a draft is MALFORMED, and where; promises 3 and 4. */
public final class MalformedEdgeTest {
    private static final int WELL = -1;
    private static final Check CHECK = new Check();
    /** How many bytes each operation has behind it. */
    private static final int[] MORE = {1, 1, 1, 0, 0, 0, 0, 0, 0, 0, 0, 1, 1, 1, 1, 0, 0, 0, 0, 1, 0, 2};
    /** A row that returns: what stands behind it is not reached, so it is never refused. */
    private static final int[] DONE = {Check.CONST, 1, Check.RETURN};

    public static void main(String[] args) {
        emptyDraft();
        operations();
        bytesThatAreLacking();
        locals();
        targets();
        targetsAtTheEndsOfFortyBytes();
        methodNumbers();
        lastInstruction();
        firstOfTheThree();
        firstInstructionOfSeveral();
        malformedBeforeRefused();
        CHECK.end();
    }

    /** Defines a draft on a new object; it is malformed at the place, or not at all (WELL). */
    private static void due(int place, int locals, int... bytes) {
        RegisterTranslator x = new RegisterTranslator();
        int answer = Check.define(x, 0, locals, bytes);
        String what = "define " + Arrays.toString(bytes) + " with " + locals;
        CHECK.due(what, answer, place == WELL ? 0 : RegisterTranslator.MALFORMED);
        CHECK.due(what + ": fault", x.fault(), place);
        CHECK.due(what + ": methods", x.methods(), place == WELL ? 1 : 0);
    }

    private static int[] behindDone(int... bytes) {
        return Check.join(DONE, bytes);
    }

    /** An operation with 0 for each byte behind it. */
    private static int[] whole(int operation) {
        int[] bytes = new int[1 + MORE[operation]];
        bytes[0] = operation;
        return bytes;
    }

    private static void emptyDraft() {
        due(0, 0);
        due(0, 6);
        due(WELL, 0, Check.GOTO, 0);
    }

    /** 21 is the last operation, 22 is none. */
    private static void operations() {
        for (int operation = 0; operation < 256; operation++) {
            if (operation <= 21) {
                int[] bytes = Check.join(whole(operation), Check.row(Check.RETURN));
                due(WELL, 1, behindDone(bytes));
            } else {
                due(3, 1, behindDone(operation, 0, 0, Check.RETURN));
                due(0, 1, operation);
            }
        }
    }

    /** In a short draft, and at the end of one of 40 bytes. */
    private static void bytesThatAreLacking() {
        for (int operation = 0; operation <= 21; operation++) {
            for (int have = 0; have < MORE[operation]; have++) {
                int[] cut = Arrays.copyOf(whole(operation), 1 + have);
                due(0, 1, cut);
                due(3, 1, behindDone(cut));
                int place = 40 - cut.length;
                int[] before = Check.times(place - DONE.length, Check.POP);
                due(place, 1, Check.join(DONE, before, cut));
            }
        }
        due(WELL, 1, Check.join(DONE, Check.times(35, Check.POP), whole(Check.GOTO)));
    }

    /** Locals 0 to n - 1 are there, n is not. */
    private static void locals() {
        for (int n = 0; n <= 6; n++) {
            for (int k : new int[] {0, n - 1, n, n + 1, 6, 7, 127, 128, 255}) {
                int place = k < n ? WELL : 3;
                if (k >= 0) {
                    due(place, n, behindDone(Check.LOAD, k, Check.RETURN));
                    due(place, n, behindDone(Check.STORE, k, Check.RETURN));
                    due(place, n, behindDone(Check.INC, k, 1, Check.RETURN));
                }
            }
        }
        // a number behind INC's local is no local
        due(WELL, 1, behindDone(Check.INC, 0, 6, Check.RETURN));
        due(WELL, 1, behindDone(Check.INC, 0, 255, Check.RETURN));
        due(WELL, 0, behindDone(Check.CONST, 6, Check.RETURN));
    }

    /** Every j, from -128 to 127, for each jump: the place of an instruction, inside one, or outside. */
    private static void targets() {
        int[] places = {0, 2, 3, 6, 8, 9};
        for (int operation = Check.GOTO; operation <= Check.IFLESS; operation++) {
            for (int j = -128; j <= 127; j++) {
                boolean found = Arrays.binarySearch(places, 6 + j) >= 0;
                due(found ? WELL : 6, 1, behindDone(Check.INC, 0, 1, operation, j, Check.POP,
                    Check.RETURN));
            }
        }
    }

    private static void targetsAtTheEndsOfFortyBytes() {
        int[] fill = Check.times(37, Check.POP);
        int[] end = {Check.RETURN};
        due(WELL, 0, Check.join(behindDone(Check.GOTO, 36), Check.times(34, Check.POP), end));
        due(3, 0, Check.join(behindDone(Check.GOTO, 37), Check.times(34, Check.POP), end));
        // from the first place to the last one: well formed, but the RETURN there has nothing to pop
        RegisterTranslator x = new RegisterTranslator();
        int answer = Check.define(x, 0, 0, Check.join(Check.row(Check.GOTO, 39), fill, end));
        CHECK.due("GOTO 39", answer, RegisterTranslator.REFUSED);
        CHECK.due("GOTO 39: fault", x.fault(), 39);
        due(0, 0, Check.join(Check.row(Check.GOTO, 40), fill, end));
        due(0, 0, Check.join(Check.row(Check.GOTO, 127), fill, end));
        due(0, 0, Check.join(Check.row(Check.GOTO, -1), fill, end));
        int[] fill35 = Check.times(35, Check.POP);
        due(WELL, 0, Check.join(DONE, fill35, Check.row(Check.GOTO, -38)));
        due(WELL, 0, Check.join(DONE, fill35, Check.row(Check.GOTO, 0)));
        due(38, 0, Check.join(DONE, fill35, Check.row(Check.GOTO, -39)));
        due(38, 0, Check.join(DONE, fill35, Check.row(Check.GOTO, -37)));
        due(38, 0, Check.join(DONE, fill35, Check.row(Check.GOTO, 1)));
        due(38, 0, Check.join(DONE, fill35, Check.row(Check.GOTO, 2)));
        due(38, 0, Check.join(DONE, fill35, Check.row(Check.GOTO, -128)));
    }

    /** The method's own number is allowed, the one above it is not, as long as there is room. */
    private static void methodNumbers() {
        RegisterTranslator x = new RegisterTranslator();
        for (int own = 0; own < 6; own++) {
            for (int m : new int[] {own + 1, own + 2, 6, 127, 128, 255}) {
                int answer = Check.define(x, 0, 0, behindDone(Check.CALL, m, Check.RETURN));
                String what = "method " + own + " with CALL " + m;
                CHECK.due(what, answer, RegisterTranslator.MALFORMED);
                CHECK.due(what + ": fault", x.fault(), 3);
            }
            int[] calls = own == 0 ? new int[0] : Check.row(Check.CALL, own - 1, Check.CALL, 0);
            int answer = Check.define(x, 0, 0, behindDone(Check.join(calls,
                Check.row(Check.CALL, own, Check.RETURN))));
            CHECK.due("method " + own + " with CALL " + own, answer, own);
        }
        x.reset();
        int answer = Check.define(x, 0, 0, behindDone(Check.CALL, 1, Check.RETURN));
        CHECK.due("CALL 1 after reset", answer, RegisterTranslator.MALFORMED);
    }

    private static void lastInstruction() {
        for (int operation = 0; operation <= 21; operation++) {
            boolean ends = operation == Check.GOTO || operation == Check.RETURN;
            due(ends ? WELL : 3, 1, behindDone(whole(operation)));
            int place = 39 - MORE[operation];
            int[] between = Check.times(place - DONE.length, Check.POP);
            due(ends ? WELL : place, 1, Check.join(DONE, between, whole(operation)));
        }
        due(0, 0, Check.CONST, 1);
        due(0, 0, Check.POP);
    }

    /** No operation and lacking bytes are told before what stands at a lower place. */
    private static void firstOfTheThree() {
        due(5, 0, behindDone(Check.LOAD, 0, 22));
        due(5, 0, behindDone(Check.GOTO, 1, 22));
        due(5, 0, behindDone(Check.CALL, 1, Check.CONST));
        due(5, 0, behindDone(Check.STORE, 0, Check.INC, 0));
        due(3, 0, behindDone(Check.LOAD, 0, 21, 22, 22));
    }

    private static void firstInstructionOfSeveral() {
        due(3, 0, behindDone(22, 23));
        due(3, 0, behindDone(255, Check.CONST));
        due(4, 0, behindDone(Check.POP, 22, Check.INC));
        due(3, 0, behindDone(Check.LOAD, 0, Check.GOTO, 1, Check.CALL, 1));
        due(3, 0, behindDone(Check.GOTO, 1, Check.CALL, 1, Check.LOAD, 0));
        due(3, 0, behindDone(Check.CALL, 1, Check.LOAD, 0, Check.GOTO, 1));
        due(5, 0, behindDone(Check.CALL, 0, Check.STORE, 0, Check.POP));
        due(6, 0, behindDone(Check.POP, Check.POP, Check.POP, Check.LOAD, 0));
    }

    private static void malformedBeforeRefused() {
        due(1, 0, Check.POP, Check.POP);
        due(2, 0, Check.POP, Check.RETURN, 22);
        due(2, 0, Check.POP, Check.RETURN, Check.GOTO, 1);
        RegisterTranslator x = new RegisterTranslator();
        CHECK.due("refused", Check.define(x, 0, 0, Check.POP, Check.RETURN), RegisterTranslator.REFUSED);
        CHECK.due("at", x.fault(), 0);
    }
}
