/** What the tests share: the operations by name, typing a row of bytes, and counting wrong answers. */
final class Check {
    static final int CONST = 0;
    static final int LOAD = 1;
    static final int STORE = 2;
    static final int ADD = 3;
    static final int SUB = 4;
    static final int MUL = 5;
    static final int DIV = 6;
    static final int REM = 7;
    static final int DUP = 8;
    static final int POP = 9;
    static final int SWAP = 10;
    static final int GOTO = 11;
    static final int IFZERO = 12;
    static final int IFNEG = 13;
    static final int IFLESS = 14;
    static final int NEW = 15;
    static final int GET = 16;
    static final int SET = 17;
    static final int LENGTH = 18;
    static final int CALL = 19;
    static final int RETURN = 20;
    static final int INC = 21;

    /** The ends of int, for arguments that are far from every boundary. */
    static final int LEAST = Integer.MIN_VALUE;
    static final int MOST = Integer.MAX_VALUE;

    private static final int MOST_SECONDS = 300;

    private int wrong;
    private int asked;

    Check() {
        Thread watch = new Thread(Check::endLateTest);
        watch.setDaemon(true);
        watch.start();
    }

    /** A call that never answers must fail the test, not hold it up. */
    private static void endLateTest() {
        try {
            Thread.sleep(1000L * MOST_SECONDS);
        } catch (InterruptedException interrupted) {
            return;
        }
        System.out.println("a call did not answer within " + MOST_SECONDS + " seconds");
        Runtime.getRuntime().halt(1);
    }

    void due(String what, long got, long want) {
        asked++;
        if (got != want) {
            wrong++;
            if (wrong <= 50) {
                System.out.println(what + " answered " + got + ", due is " + want);
            }
        }
    }

    void due(String what, boolean got, boolean want) {
        due(what, got ? 1 : 0, want ? 1 : 0);
    }

    /** All units of a method, and none behind them. */
    void dueUnits(String what, RegisterTranslator x, int method, int... want) {
        due(what + ": units", x.units(method), want.length);
        for (int k = 0; k < want.length; k++) {
            due(what + ": unit " + k, x.unit(method, k), want[k]);
        }
        due(what + ": no unit behind", x.unit(method, want.length), -1);
    }

    /** A run in one form: how it ends, value, steps, at and running. */
    void dueRun(String what, RegisterTranslator x, boolean registers, int[] call, int... want) {
        String form = what + (registers ? " (registers)" : " (stack)");
        due(form + ": run", x.run(registers, call[0], call[1]), want[0]);
        due(form + ": value", x.value(), want[1]);
        due(form + ": steps", x.steps(), want[2]);
        due(form + ": at", x.at(), want[3]);
        due(form + ": running", x.running(), want[4]);
    }

    void end() {
        System.out.println(asked + " answers, " + wrong + " of them wrong");
        if (wrong != 0) {
            System.exit(1);
        }
    }

    /** Types the bytes one by one; a number below 0 stands for itself plus 256. */
    static void type(RegisterTranslator x, int... bytes) {
        for (int b : bytes) {
            x.type(b & 0xFF, 1);
        }
    }

    static int define(RegisterTranslator x, int parameters, int locals, int... bytes) {
        type(x, bytes);
        return x.define(parameters, locals);
    }

    /** One row out of several. */
    static int[] join(int[]... rows) {
        int length = 0;
        for (int[] row : rows) {
            length += row.length;
        }
        int[] whole = new int[length];
        int at = 0;
        for (int[] row : rows) {
            System.arraycopy(row, 0, whole, at, row.length);
            at += row.length;
        }
        return whole;
    }

    static int[] row(int... bytes) {
        return bytes;
    }

    /** The same bytes so many times. */
    static int[] times(int n, int... bytes) {
        int[] whole = new int[n * bytes.length];
        for (int k = 0; k < whole.length; k++) {
            whole[k] = bytes[k % bytes.length];
        }
        return whole;
    }

    static int[] with(int method, int budget) {
        return new int[] {method, budget};
    }
}
