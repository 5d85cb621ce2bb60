/** Promises 9 to 11: first, units and unit, the register code of each operation. */
public final class UnitsTest {
    private static final Check CHECK = new Check();

    public static void main(String[] args) {
        constants();
        copies();
        swapsOfBothKinds();
        arithmetic();
        increments();
        jumps();
        arrays();
        calls();
        popsAndCodeThatIsNotReached();
        highestRegisters();
        numbersThatAreNotThere();
        CHECK.end();
    }

    private static RegisterTranslator defined(int parameters, int locals, int... bytes) {
        RegisterTranslator x = new RegisterTranslator();
        int answer = Check.define(x, parameters, locals, bytes);
        CHECK.due("define " + java.util.Arrays.toString(bytes), answer, 0);
        return x;
    }

    private static void constants() {
        int[][] cases = {{7, 0x7112}, {-8, 0x8112}, {-1, 0xF112}, {0, 0x0112},
            {8, 0x0113, 0x0008}, {-9, 0x0113, 0xFFF7}, {127, 0x0113, 0x007F},
            {-128, 0x0113, 0xFF80}};
        for (int[] c : cases) {
            RegisterTranslator x = defined(1, 1, Check.CONST, c[0], Check.RETURN);
            if (c.length == 2) {
                CHECK.dueUnits("CONST " + c[0], x, 0, c[1], 0x010F);
                CHECK.due("first behind CONST " + c[0], x.first(0, 2), 1);
            } else {
                CHECK.dueUnits("CONST " + c[0], x, 0, c[1], c[2], 0x010F);
                CHECK.due("first behind CONST " + c[0], x.first(0, 2), 2);
            }
        }
    }

    private static void copies() {
        RegisterTranslator x = defined(2, 3, Check.LOAD, 1, Check.DUP, Check.STORE, 2, Check.NEW,
            Check.DUP, Check.STORE, 2, Check.LOAD, 2, Check.LENGTH, Check.RETURN);
        CHECK.dueUnits("copies", x, 0, 0x1301, 0x3401, 0x4201, 0x3323, 0, 0x3407, 0x4207, 0x2407,
            0x4421, 0x040F);
    }

    private static void swapsOfBothKinds() {
        int[] array = {Check.CONST, 1, Check.NEW};
        RegisterTranslator x = defined(0, 0, array[0], array[1], array[2], Check.CONST, 5,
            Check.SWAP, Check.SWAP, Check.RETURN);
        CHECK.dueUnits("swaps", x, 0, 0x1012, 0x0023, 0, 0x5112,
            0x1201, 0x0107, 0x2001, 0x1207, 0x0101, 0x2007, 0x010F);
        CHECK.due("first of the second SWAP", x.first(0, 6), 7);
        CHECK.due("first of RETURN", x.first(0, 7), 10);
    }

    private static void arithmetic() {
        int[] operations = {Check.ADD, Check.SUB, Check.MUL, Check.DIV, Check.REM};
        for (int k = 0; k < operations.length; k++) {
            RegisterTranslator x = defined(2, 2, Check.LOAD, 0, Check.LOAD, 1, operations[k],
                Check.RETURN);
            CHECK.dueUnits("operation " + operations[k], x, 0, 0x0201, 0x1301, 0x0290 + k, 0x0302,
                0x020F);
        }
    }

    private static void increments() {
        RegisterTranslator x = defined(3, 3, Check.INC, 2, -1, Check.INC, 0, 127, Check.INC, 1, -128,
            Check.LOAD, 2, Check.RETURN);
        CHECK.dueUnits("increments", x, 0, 0x02D8, 0xFF02, 0x00D8, 0x7F00, 0x01D8, 0x8001, 0x2301,
            0x030F);
    }

    private static void jumps() {
        RegisterTranslator x = defined(2, 2, Check.LOAD, 0, Check.IFZERO, 14, Check.LOAD, 0,
            Check.IFNEG, 4, Check.GOTO, -8, Check.LOAD, 0, Check.LOAD, 1, Check.IFLESS, -4,
            Check.CONST, 100, Check.RETURN);
        CHECK.dueUnits("jumps", x, 0,
            0x0201,
            0x0238, 0x000B,
            0x0201,
            0x023A, 0x0004,
            0x0029, 0xFFFA,
            0x0201, 0x1301,
            0x3234, 0xFFFE,
            0x0213, 0x0064,
            0x020F);
        x = defined(0, 0, Check.GOTO, 3, Check.ADD, Check.CONST, 1, Check.RETURN);
        CHECK.dueUnits("a jump at place 0", x, 0, 0x0029, 0x0002, 0x1012, 0x000F);
        CHECK.dueUnits("a jump to itself", defined(0, 0, Check.GOTO, 0), 0, 0x0029, 0x0000);
    }

    private static void arrays() {
        RegisterTranslator x = defined(1, 1, Check.LOAD, 0, Check.NEW, Check.DUP, Check.CONST, 0,
            Check.CONST, 6, Check.SET, Check.CONST, 0, Check.GET, Check.RETURN);
        CHECK.dueUnits("arrays", x, 0,
            0x0101, 0x1123, 0x0000, 0x1207, 0x0312, 0x6412,
            0x044B, 0x0302,
            0x0212,
            0x0144, 0x0201,
            0x010F);
    }

    private static void calls() {
        RegisterTranslator x = new RegisterTranslator();
        int[] one = {Check.CONST, 1, Check.RETURN};
        for (int p = 0; p <= 3; p++) {
            CHECK.due("define with " + p, Check.define(x, p, p, one), p);
        }
        CHECK.due("the caller", Check.define(x, 1, 1, Check.LOAD, 0, Check.CALL, 0,
            Check.CONST, 2, Check.CALL, 3, Check.CALL, 1, Check.DUP, Check.CALL, 2,
            Check.CALL, 4, Check.RETURN), 4);
        CHECK.dueUnits("calls", x, 4,
            0x0101,
            0x0071, 0x0000, 0x0000, 0x020A,
            0x2312,
            0x3071, 0x0003, 0x0321, 0x010A,
            0x1071, 0x0001, 0x0001, 0x010A,
            0x1201,
            0x2071, 0x0002, 0x0021, 0x010A,
            0x1071, 0x0004, 0x0001, 0x010A,
            0x010F);
        CHECK.due("first behind a CALL", x.first(4, 4), 5);
    }

    private static void popsAndCodeThatIsNotReached() {
        RegisterTranslator x = defined(1, 1, Check.LOAD, 0, Check.DUP, Check.POP, Check.POP,
            Check.GOTO, 4, Check.CONST, 100, Check.CONST, 1, Check.RETURN);
        CHECK.dueUnits("pops", x, 0, 0x0101, 0x1201, 0x0029, 0x0002, 0x1112, 0x010F);
        int[] firsts = {0, -1, 1, 2, 2, 2, -1, -1, -1, 4, -1, 5};
        for (int place = 0; place < firsts.length; place++) {
            CHECK.due("first at " + place, x.first(0, place), firsts[place]);
        }
        x = defined(1, 1, Check.LOAD, 0, Check.DUP, Check.IFZERO, 4, Check.GOTO, 2, Check.POP,
            Check.CONST, 1, Check.RETURN);
        CHECK.dueUnits("jumps to a POP", x, 0, 0x0101, 0x1201, 0x0238, 0x0004, 0x0029, 0x0002,
            0x1112, 0x010F);
        CHECK.due("first of the POP", x.first(0, 7), 6);
    }

    private static void highestRegisters() {
        int[] eight = new int[16];
        for (int k = 0; k < 8; k++) {
            eight[2 * k + 1] = k;
        }
        int[] bytes = java.util.Arrays.copyOf(eight, 20);
        bytes[16] = Check.SWAP;
        bytes[17] = Check.ADD;
        bytes[18] = Check.NEW;
        bytes[19] = Check.GOTO;
        RegisterTranslator x = new RegisterTranslator();
        Check.type(x, bytes);
        Check.type(x, 0);
        CHECK.due("define", x.define(3, 6), 0);
        CHECK.dueUnits("high registers", x, 0, 0x0612, 0x1712, 0x2812, 0x3912, 0x4A12, 0x5B12,
            0x6C12, 0x7D12, 0xDE01, 0xCD01, 0xEC01, 0x0C90, 0x0D0C, 0xCC23, 0, 0x0029, 0);
    }

    private static void numbersThatAreNotThere() {
        RegisterTranslator x = defined(1, 1, Check.LOAD, 0, Check.RETURN);
        for (int method : new int[] {-1, 1, 5, 6, 7, Integer.MIN_VALUE, Integer.MAX_VALUE}) {
            CHECK.due("units of method " + method, x.units(method), -1);
            CHECK.due("unit of method " + method, x.unit(method, 0), -1);
            CHECK.due("first of method " + method, x.first(method, 0), -1);
        }
        for (int k : new int[] {-1, 2, 119, 120, Integer.MIN_VALUE, Integer.MAX_VALUE}) {
            CHECK.due("unit " + k, x.unit(0, k), -1);
        }
        for (int place : new int[] {-1, 1, 3, 39, 40, Integer.MIN_VALUE, Integer.MAX_VALUE}) {
            CHECK.due("first at " + place, x.first(0, place), -1);
        }
    }
}
