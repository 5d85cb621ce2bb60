/** Promises 7 and 8: depth and state, the states that verifying comes to. */
public final class StateTest {
    private static final Check CHECK = new Check();

    public static void main(String[] args) {
        straightCode();
        numbersThatAreNotThere();
        codeThatIsNotReached();
        wherePathsMeet();
        aLoopThatLosesALocal();
        aFullStack();
        CHECK.end();
    }

    /** The kinds by slot, 0 to 15, and nothing around them. */
    private static void dueState(RegisterTranslator x, int place, int depth, String kinds) {
        CHECK.due("depth at " + place, x.depth(0, place), depth);
        for (int slot = 0; slot < 16; slot++) {
            int want = kinds.charAt(slot) - '0';
            CHECK.due("state at " + place + ", " + slot, x.state(0, place, slot), want);
        }
        for (int slot : new int[] {-1, 16, 17, 32, Integer.MIN_VALUE, Integer.MAX_VALUE}) {
            CHECK.due("state at " + place + ", " + slot, x.state(0, place, slot), 0);
        }
    }

    private static void straightCode() {
        RegisterTranslator x = new RegisterTranslator();
        Check.define(x, 1, 3, Check.CONST, 3, Check.NEW, Check.STORE, 1, Check.LOAD, 1,
            Check.LOAD, 0, Check.SWAP, Check.DUP, Check.POP, Check.POP, Check.STORE, 2,
            Check.LOAD, 2, Check.RETURN);
        dueState(x, 0, 0, "1000000000000000");
        dueState(x, 1, -1, "0000000000000000");
        dueState(x, 2, 1, "1000000010000000");
        dueState(x, 3, 1, "1000000020000000");
        dueState(x, 5, 0, "1200000000000000");
        dueState(x, 7, 1, "1200000020000000");
        dueState(x, 9, 2, "1200000021000000");
        dueState(x, 10, 2, "1200000012000000");
        dueState(x, 11, 3, "1200000012200000");
        dueState(x, 12, 2, "1200000012000000");
        dueState(x, 13, 1, "1200000010000000");
        dueState(x, 15, 0, "1210000000000000");
        dueState(x, 17, 1, "1210000010000000");
        dueState(x, 18, -1, "0000000000000000");
    }

    private static void numbersThatAreNotThere() {
        RegisterTranslator x = new RegisterTranslator();
        Check.define(x, 1, 1, Check.LOAD, 0, Check.RETURN);
        for (int method : new int[] {-1, 1, 5, 6, 7, Integer.MIN_VALUE, Integer.MAX_VALUE}) {
            CHECK.due("depth of method " + method, x.depth(method, 0), -1);
            CHECK.due("state of method " + method, x.state(method, 0, 0), 0);
        }
        for (int place : new int[] {-1, 1, 3, 39, 40, Integer.MIN_VALUE, Integer.MAX_VALUE}) {
            CHECK.due("depth at " + place, x.depth(0, place), -1);
            CHECK.due("state at " + place, x.state(0, place, 0), 0);
        }
    }

    private static void codeThatIsNotReached() {
        RegisterTranslator x = new RegisterTranslator();
        Check.define(x, 1, 1, Check.LOAD, 0, Check.GOTO, 3, Check.ADD, Check.RETURN);
        dueState(x, 4, -1, "0000000000000000");
        dueState(x, 5, 1, "1000000010000000");
        // a shorter method in the same row must not show the longer one's places
        x.reset();
        Check.define(x, 0, 0, Check.GOTO, 0);
        dueState(x, 0, 0, "0000000000000000");
        dueState(x, 2, -1, "0000000000000000");
        dueState(x, 5, -1, "0000000000000000");
    }

    private static void wherePathsMeet() {
        RegisterTranslator x = new RegisterTranslator();
        // local 1 a number or an array, local 2 a number or nothing, local 3 a number both times
        Check.define(x, 1, 4, Check.CONST, 1, Check.STORE, 1, Check.CONST, 1, Check.STORE, 3,
            Check.LOAD, 0, Check.IFZERO, 11, Check.CONST, 1, Check.STORE, 2,
            Check.CONST, 1, Check.NEW, Check.STORE, 1, Check.LOAD, 0, Check.RETURN);
        dueState(x, 12, 0, "1101000000000000");
        dueState(x, 16, 0, "1111000000000000");
        dueState(x, 21, 0, "1001000000000000");
        dueState(x, 23, 1, "1001000010000000");
    }

    private static void aLoopThatLosesALocal() {
        RegisterTranslator x = new RegisterTranslator();
        // local 1 is a number at first and an array the second time; it is never loaded
        Check.define(x, 1, 2, Check.CONST, 4, Check.STORE, 1, Check.LOAD, 0, Check.IFZERO, 9,
            Check.CONST, 1, Check.NEW, Check.STORE, 1, Check.GOTO, -9, Check.LOAD, 0,
            Check.RETURN);
        dueState(x, 2, 1, "1000000010000000");
        dueState(x, 4, 0, "1000000000000000");
        dueState(x, 6, 1, "1000000010000000");
        dueState(x, 8, 0, "1000000000000000");
        dueState(x, 11, 1, "1000000020000000");
        dueState(x, 13, 0, "1200000000000000");
        dueState(x, 15, 0, "1000000000000000");
    }

    private static void aFullStack() {
        RegisterTranslator x = new RegisterTranslator();
        Check.define(x, 3, 6, Check.CONST, 1, Check.CONST, 1, Check.CONST, 1, Check.CONST, 1,
            Check.CONST, 1, Check.CONST, 1, Check.CONST, 1, Check.CONST, 1, Check.NEW,
            Check.STORE, 5, Check.RETURN);
        dueState(x, 16, 8, "1110000011111111");
        dueState(x, 17, 8, "1110000011111112");
        dueState(x, 19, 7, "1110020011111110");
    }
}
