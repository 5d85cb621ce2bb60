/** The boundaries of REGISTER CODE: lowest and highest registers, wrap-arounds, nothing; promises 9 to 11. */
public final class UnitsEdgeTest {
    private static final Check CHECK = new Check();

    public static void main(String[] args) {
        everyConst();
        everyInc();
        lowestRegisters();
        highestRegisters();
        copiesOfBothKinds();
        returnsFromEveryDepth();
        callsWithEveryNumberOfParameters();
        distances();
        longestMethod();
        smallestAndGreatestUnit();
        popsBecomeNothing();
        unreachedBecomesNothing();
        numbersOfUnits();
        CHECK.end();
    }

    private static RegisterTranslator defined(int parameters, int locals, int... bytes) {
        RegisterTranslator x = new RegisterTranslator();
        int answer = Check.define(x, parameters, locals, bytes);
        CHECK.due("define " + java.util.Arrays.toString(bytes), answer, 0);
        return x;
    }

    private static int[] numbers(int n) {
        return Check.times(n, Check.CONST, 0);
    }

    /** From -8 to 7 one unit, another number two. */
    private static void everyConst() {
        for (int b = -128; b <= 127; b++) {
            RegisterTranslator x = defined(2, 2, Check.CONST, b, Check.RETURN);
            if (b < -8 || b > 7) {
                CHECK.dueUnits("CONST " + b, x, 0, 0x0213, b < 0 ? 0x10000 + b : b, 0x020F);
                CHECK.due("first behind CONST " + b, x.first(0, 2), 2);
            } else {
                int digit = b < 0 ? 16 + b : b;
                CHECK.dueUnits("CONST " + b, x, 0, 0x0212 + digit * 0x1000, 0x020F);
                CHECK.due("first behind CONST " + b, x.first(0, 2), 1);
            }
        }
        CHECK.dueUnits("CONST -9", defined(0, 0, 0, 247, 20), 0, 0x0013, 0xFFF7, 0x000F);
        CHECK.dueUnits("CONST -8", defined(0, 0, 0, 248, 20), 0, 0x8012, 0x000F);
        CHECK.dueUnits("CONST -1", defined(0, 0, 0, 255, 20), 0, 0xF012, 0x000F);
        CHECK.dueUnits("CONST 0", defined(0, 0, 0, 0, 20), 0, 0x0012, 0x000F);
        CHECK.dueUnits("CONST 7", defined(0, 0, 0, 7, 20), 0, 0x7012, 0x000F);
        CHECK.dueUnits("CONST 8", defined(0, 0, 0, 8, 20), 0, 0x0013, 0x0008, 0x000F);
        CHECK.dueUnits("CONST 127", defined(0, 0, 0, 127, 20), 0, 0x0013, 0x007F, 0x000F);
        CHECK.dueUnits("CONST -128", defined(0, 0, 0, 128, 20), 0, 0x0013, 0xFF80, 0x000F);
    }

    private static void everyInc() {
        for (int b = -128; b <= 127; b++) {
            int digits = b < 0 ? 0x100 + b : b;
            RegisterTranslator x = defined(3, 3, Check.INC, 2, b, Check.GOTO, 0);
            CHECK.dueUnits("INC 2 " + b, x, 0, 0x02D8, digits * 0x100 + 2, 0x0029, 0);
        }
        CHECK.dueUnits("INC 0 -1", defined(1, 1, 21, 0, 255, 11, 0), 0, 0x00D8, 0xFF00, 0x0029, 0);
        CHECK.dueUnits("INC 5 127", defined(0, 6, 0, 0, 2, 5, 21, 5, 127, 11, 0), 0,
            0x0612, 0x6501, 0x05D8, 0x7F05, 0x0029, 0);
        CHECK.dueUnits("INC 5 -128", defined(0, 6, 0, 0, 2, 5, 21, 5, 128, 11, 0), 0,
            0x0612, 0x6501, 0x05D8, 0x8005, 0x0029, 0);
    }

    /** No locals, and no more on the stack than is needed: every instruction begins at register 0. */
    private static void lowestRegisters() {
        for (int k = 0; k < 5; k++) {
            CHECK.dueUnits("arithmetic " + k, defined(0, 0, 0, 0, 0, 0, Check.ADD + k, 20), 0,
                0x0012, 0x0112, 0x0090 + k, 0x0100, 0x000F);
        }
        CHECK.dueUnits("DUP", defined(0, 0, 0, 0, Check.DUP, 20), 0, 0x0012, 0x0101, 0x010F);
        CHECK.dueUnits("SWAP", defined(0, 0, 0, 0, 0, 0, Check.SWAP, 20), 0, 0x0012, 0x0112,
            0x1201, 0x0101, 0x2001, 0x010F);
        CHECK.dueUnits("IFZERO", defined(0, 0, 0, 0, Check.IFZERO, -2, 11, 0), 0, 0x0012,
            0x0038, 0xFFFF, 0x0029, 0);
        CHECK.dueUnits("IFNEG", defined(0, 0, 0, 0, Check.IFNEG, -2, 11, 0), 0, 0x0012,
            0x003A, 0xFFFF, 0x0029, 0);
        CHECK.dueUnits("IFLESS", defined(0, 0, 0, 0, 0, 0, Check.IFLESS, 2, 11, 0), 0, 0x0012,
            0x0112, 0x1034, 0x0002, 0x0029, 0);
        CHECK.dueUnits("NEW, LENGTH", defined(0, 0, 0, 0, Check.NEW, Check.LENGTH, 20), 0, 0x0012,
            0x0023, 0, 0x0021, 0x000F);
        CHECK.dueUnits("GET", defined(0, 0, 0, 0, Check.NEW, 0, 0, Check.GET, 20), 0, 0x0012,
            0x0023, 0, 0x0112, 0x0044, 0x0100, 0x000F);
        CHECK.dueUnits("SET", defined(0, 0, 0, 0, Check.NEW, 0, 0, 0, 0, Check.SET, 11, 0), 0,
            0x0012, 0x0023, 0, 0x0112, 0x0212, 0x024B, 0x0100, 0x0029, 0);
        CHECK.dueUnits("CALL", defined(0, 0, Check.CALL, 0, 20), 0, 0x0071, 0, 0, 0x000A, 0x000F);
    }

    /** Six locals and 8 on the stack: the top is register 13, and SWAP uses 14. */
    private static void highestRegisters() {
        dueLast("LOAD", Check.join(numbers(7), Check.row(Check.LOAD, 2)), 0x2D01);
        dueLast("DUP", Check.join(numbers(7), Check.row(Check.DUP)), 0xCD01);
        dueLast("CONST", Check.join(numbers(7), Check.row(Check.CONST, -8)), 0x8D12);
        dueLast("CONST", Check.join(numbers(7), Check.row(Check.CONST, 8)), 0x0D13, 0x0008);
        dueLast("STORE", Check.join(numbers(8), Check.row(Check.STORE, 5)), 0xD501);
        dueLast("SWAP", Check.join(numbers(8), Check.row(Check.SWAP)), 0xDE01, 0xCD01, 0xEC01);
        for (int k = 0; k < 5; k++) {
            dueLast("arithmetic", Check.join(numbers(8), Check.row(Check.ADD + k)), 0x0C90 + k, 0x0D0C);
        }
        dueLast("IFZERO", Check.join(numbers(8), Check.row(Check.IFZERO, 2)), 0x0D38, 2);
        dueLast("IFNEG", Check.join(numbers(8), Check.row(Check.IFNEG, 2)), 0x0D3A, 2);
        dueLast("IFLESS", Check.join(numbers(8), Check.row(Check.IFLESS, 2)), 0xDC34, 2);
        dueLast("NEW", Check.join(numbers(8), Check.row(Check.NEW)), 0xDD23, 0);
        dueLast("LENGTH", Check.join(numbers(8), Check.row(Check.NEW, Check.LENGTH)), 0xDD21);
        dueLast("GET", Check.join(numbers(7), Check.row(Check.NEW, 0, 0, Check.GET)), 0x0C44, 0x0D0C);
        dueLast("SET", Check.join(numbers(6), Check.row(Check.NEW, 0, 0, 0, 0, Check.SET)),
            0x0D4B, 0x0C0B);
        dueLast("CALL", Check.join(numbers(8), Check.row(Check.CALL, 0)), 0x3071, 0, 0x0DCB, 0x0B0A);
    }

    /** The units that the last instruction of a row becomes, before a GOTO. */
    private static void dueLast(String what, int[] row, int... want) {
        RegisterTranslator x = defined(3, 6, Check.join(row, Check.row(Check.GOTO, 0)));
        int end = x.units(0) - 2;
        for (int k = 0; k < want.length; k++) {
            CHECK.due("highest " + what + ", unit " + k, x.unit(0, end - want.length + k), want[k]);
        }
        CHECK.due("highest " + what + ": first behind it", x.first(0, row.length), end);
        CHECK.due("highest " + what + ": GOTO", x.unit(0, end), 0x0029);
    }

    private static void copiesOfBothKinds() {
        int[] array = {Check.CONST, 0, Check.NEW};
        dueLast("LOAD", Check.join(array, Check.row(Check.STORE, 5), numbers(7),
            Check.row(Check.LOAD, 5)), 0x5D07);
        dueLast("STORE", Check.join(numbers(7), array, Check.row(Check.STORE, 0)), 0xD007);
        dueLast("DUP", Check.join(numbers(6), array, Check.row(Check.DUP)), 0xCD07);
        dueLast("SWAP", Check.join(numbers(6), array, array, Check.row(Check.SWAP)),
            0xDE07, 0xCD07, 0xEC07);
        dueLast("SWAP", Check.join(numbers(7), array, Check.row(Check.SWAP)),
            0xDE07, 0xCD01, 0xEC07);
        dueLast("SWAP", Check.join(numbers(6), array, numbers(1), Check.row(Check.SWAP)),
            0xDE01, 0xCD07, 0xEC01);
    }

    private static void returnsFromEveryDepth() {
        for (int n = 0; n <= 6; n++) {
            for (int d = 1; d <= 8; d++) {
                RegisterTranslator x = defined(0, n, Check.join(numbers(d), Check.row(Check.RETURN)));
                CHECK.due("units", x.units(0), d + 1);
                CHECK.due("RETURN, " + n + " and " + d, x.unit(0, d), 0x000F + (n + d - 1) * 0x100);
            }
        }
    }

    /** The registers of parameters that are not there are 0; the result comes to the first one's. */
    private static void callsWithEveryNumberOfParameters() {
        int[][] named = {{0x0071, 0x0000}, {0x1071, 0x000D}, {0x2071, 0x00DC}, {0x3071, 0x0DCB}};
        for (int p = 0; p <= 3; p++) {
            int on = p == 0 ? 7 : 8;
            RegisterTranslator x = new RegisterTranslator();
            for (int m = 0; m < 5; m++) {
                Check.define(x, p, p, Check.CONST, m, Check.RETURN);
            }
            int answer = Check.define(x, 3, 6, Check.join(numbers(on), Check.row(Check.CALL, 4,
                Check.RETURN)));
            CHECK.due("the sixth method", answer, 5);
            CHECK.due("CALL with " + p, x.unit(5, on), named[p][0]);
            CHECK.due("its method", x.unit(5, on + 1), 4);
            CHECK.due("its registers", x.unit(5, on + 2), named[p][1]);
            CHECK.due("its result", x.unit(5, on + 3), 0x0A + (13 - Math.max(p - 1, 0)) * 0x100);
        }
        RegisterTranslator own = defined(3, 3, 0, 0, 0, 0, 0, 0, Check.CALL, 0, 20);
        CHECK.dueUnits("CALL of itself", own, 0, 0x0312, 0x0412, 0x0512, 0x3071, 0, 0x0543, 0x030A,
            0x030F);
    }

    /** To itself, one unit back, to what is behind, and across instructions that become nothing. */
    private static void distances() {
        CHECK.dueUnits("GOTO itself", defined(0, 0, Check.GOTO, 0), 0, 0x0029, 0x0000);
        CHECK.dueUnits("GOTO behind", defined(0, 0, Check.GOTO, 2, Check.GOTO, 0), 0, 0x0029, 2,
            0x0029, 0);
        CHECK.dueUnits("one unit back", defined(1, 1, Check.LOAD, 0, Check.IFZERO, -2, Check.GOTO, -4),
            0, 0x0101, 0x0138, 0xFFFF, 0x0029, 0xFFFD);
        CHECK.dueUnits("across code that is not reached", defined(0, 0, Check.GOTO, 7, Check.CONST,
            100, Check.CONST, 100, Check.ADD, Check.GOTO, 0), 0, 0x0029, 2, 0x0029, 0);
        CHECK.dueUnits("back across POPs", defined(1, 1, Check.LOAD, 0, Check.LOAD, 0, Check.POP,
            Check.POP, Check.GOTO, -6), 0, 0x0101, 0x0201, 0x0029, 0xFFFE);
        CHECK.dueUnits("to a POP", defined(1, 1, Check.LOAD, 0, Check.GOTO, 3, Check.ADD, Check.POP,
            Check.GOTO, 0), 0, 0x0101, 0x0029, 2, 0x0029, 0);
    }

    /** 35 SWAPs, three units each, and a jump over them all in each direction. */
    private static void longestMethod() {
        RegisterTranslator back = defined(0, 0, Check.join(Check.row(Check.CONST, 1, Check.DUP),
            Check.times(35, Check.SWAP), Check.row(Check.GOTO, -35)));
        CHECK.due("units", back.units(0), 109);
        CHECK.due("first of the last SWAP", back.first(0, 37), 104);
        CHECK.due("first of GOTO", back.first(0, 38), 107);
        CHECK.due("GOTO", back.unit(0, 107), 0x0029);
        CHECK.due("its distance", back.unit(0, 108), 0x10000 - 105);
        CHECK.due("unit behind", back.unit(0, 109), -1);
        RegisterTranslator ahead = defined(0, 0, Check.join(Check.row(Check.CONST, 1, Check.DUP,
            Check.DUP, Check.IFZERO, 34), Check.times(32, Check.SWAP), Check.row(Check.GOTO, 0)));
        CHECK.due("units", ahead.units(0), 103);
        CHECK.due("IFZERO", ahead.unit(0, 3), 0x0238);
        CHECK.due("its distance", ahead.unit(0, 4), 98);
        CHECK.due("first of its target", ahead.first(0, 38), 101);
        CHECK.due("unit behind", ahead.unit(0, 103), -1);
    }

    private static void smallestAndGreatestUnit() {
        RegisterTranslator x = defined(1, 1, Check.LOAD, 0, Check.IFNEG, -2, Check.GOTO, 0);
        CHECK.due("65535", x.unit(0, 2), 65535);
        CHECK.due("0", x.unit(0, 4), 0);
    }

    private static void popsBecomeNothing() {
        RegisterTranslator x = defined(0, 0, Check.join(numbers(8), Check.times(8, Check.POP),
            Check.row(Check.GOTO, -24)));
        CHECK.due("units", x.units(0), 10);
        for (int place = 16; place <= 24; place++) {
            CHECK.due("depth at " + place, x.depth(0, place), 24 - place);
            CHECK.due("first at " + place, x.first(0, place), 8);
        }
        CHECK.due("GOTO", x.unit(0, 8), 0x0029);
        CHECK.due("its distance", x.unit(0, 9), 0x10000 - 8);
    }

    private static void unreachedBecomesNothing() {
        RegisterTranslator x = defined(0, 6, Check.join(Check.row(Check.CONST, 1, Check.RETURN),
            Check.times(36, Check.SWAP), Check.row(Check.RETURN)));
        CHECK.dueUnits("what is reached", x, 0, 0x1612, 0x060F);
        for (int place = 3; place <= 40; place++) {
            CHECK.due("first at " + place, x.first(0, place), -1);
        }
    }

    /** Methods -1 to 6 and units -1 to one behind the last. */
    private static void numbersOfUnits() {
        RegisterTranslator x = new RegisterTranslator();
        for (int count = 0; count <= 6; count++) {
            for (int m : new int[] {Check.LEAST, -1, 0, count - 1, count, 5, 6, 7, Check.MOST}) {
                boolean there = m >= 0 && m < count;
                CHECK.due(count + " methods: units " + m, x.units(m), there ? 2 + m : -1);
                CHECK.due(count + " methods: unit " + m, x.unit(m, 0), there ? 0x1012 : -1);
                CHECK.due(count + " methods: first " + m, x.first(m, 0), there ? 0 : -1);
                CHECK.due(count + " methods: depth " + m, x.depth(m, 0), there ? 0 : -1);
            }
            if (count < 6) {
                Check.define(x, 0, 0, Check.join(Check.row(Check.CONST, 1), Check.times(count, Check.DUP),
                    Check.row(Check.RETURN)));
            }
        }
        for (int k : new int[] {Check.LEAST, -2, -1, 7, 8, 40, 119, 120, 121, Check.MOST}) {
            CHECK.due("unit " + k, x.unit(5, k), -1);
        }
        CHECK.due("last unit", x.unit(5, 6), 0x050F);
    }
}
