/** The boundaries of a draft: promise 2, its 40 bytes, and when it is empty (promises 1, 3 and 5). */
public final class DraftEdgeTest {
    private static final Check CHECK = new Check();

    public static void main(String[] args) {
        numberOfBytesToType();
        refusedTypeAddsNothing();
        lowestBytesHighestFirst();
        everyByteInEveryPlace();
        fortyBytesAndNoMore();
        emptyAfterEveryDefine();
        emptyAfterReset();
        otherCallsLeaveTheDraft();
        CHECK.end();
    }

    private static void numberOfBytesToType() {
        for (int n = -3; n <= 12; n++) {
            boolean taken = new RegisterTranslator().type(0, n);
            CHECK.due("type " + n + " bytes", taken, n >= 1 && n <= 8);
        }
        for (int n : new int[] {Check.LEAST, Check.LEAST + 1, -40, 40, 256, 257, Check.MOST}) {
            CHECK.due("type " + n + " bytes", new RegisterTranslator().type(0, n), false);
        }
    }

    private static void refusedTypeAddsNothing() {
        for (int n : new int[] {Check.LEAST, -8, -1, 0, 9, 16, 264, Check.MOST}) {
            RegisterTranslator x = new RegisterTranslator();
            CHECK.due("refused", x.type(0x1616_1616_1616_1616L, n), false);
            CHECK.due("CONST", x.type(Check.CONST, 1), true);
            CHECK.due("refused", x.type(0x1616_1616_1616_1616L, n), false);
            CHECK.due("5 RETURN", x.type(0x0514, 2), true);
            CHECK.due("define after type of " + n, x.define(0, 0), 0);
            CHECK.dueUnits("CONST 5, RETURN", x, 0, 0x5012, 0x000F);
        }
    }

    /** Bytes above the n lowest are 22, which is no operation, or 255. */
    private static void lowestBytesHighestFirst() {
        int[] code = {Check.CONST, 1, Check.CONST, 2, Check.SUB, Check.CONST, 3, Check.RETURN};
        for (long above : new long[] {0x1616_1616_1616_1616L, -1L, 0L}) {
            for (int n = 1; n <= 8; n++) {
                RegisterTranslator x = new RegisterTranslator();
                for (int from = 0; from < 8; from += n) {
                    typeOne(x, code, from, Math.min(n, 8 - from), above);
                }
                CHECK.due("define of " + n + " at a time", x.define(0, 0), 0);
                CHECK.dueUnits(n + " at a time", x, 0, 0x1012, 0x2112, 0x0091, 0x0100, 0x3112,
                    0x010F);
            }
        }
    }

    private static void typeOne(RegisterTranslator x, int[] code, int from, int n, long above) {
        long bytes = above;
        for (int k = 0; k < n; k++) {
            bytes = bytes << 8 | code[from + k];
        }
        CHECK.due("type", x.type(bytes, n), true);
    }

    /** A byte with its highest bit set must not spill into those before it. */
    private static void everyByteInEveryPlace() {
        for (int place = 0; place < 8; place++) {
            for (int b : new int[] {0x7F, 0x80, 0xFF, 22}) {
                RegisterTranslator x = new RegisterTranslator();
                long eight = 0x0808_0808_0808_0808L;
                long hole = 0xFFL << 8 * (7 - place);
                CHECK.due("type", x.type(eight & ~hole | (long) b << 8 * (7 - place), 8), true);
                CHECK.due("define", x.define(0, 0), RegisterTranslator.MALFORMED);
                CHECK.due("byte " + b + " is no operation at", x.fault(), place);
            }
        }
    }

    private static void fortyBytesAndNoMore() {
        for (int length = 30; length <= 40; length++) {
            for (int n = 1; n <= 8; n++) {
                RegisterTranslator x = new RegisterTranslator();
                typeFrom(x, 0, length);
                String what = length + " bytes and " + n;
                if (length + n <= 40) {
                    CHECK.due(what, x.type(0x0808_0808_0808_0808L, n), true);
                } else {
                    CHECK.due(what, x.type(0x1616_1616_1616_1616L, n), false);
                    dueRestFits(x, length, what);
                }
            }
        }
    }

    private static void dueRestFits(RegisterTranslator x, int length, String what) {
        typeFrom(x, length, 40);
        CHECK.due(what + ": a byte more", x.type(Check.RETURN, 1), false);
        CHECK.due(what + ": define", x.define(0, 0), 0);
        CHECK.due(what + ": the last instruction", x.depth(0, 39), 2);
        CHECK.due(what + ": no instruction behind it", x.depth(0, 40), -1);
        CHECK.due(what + ": units", x.units(0), 21);
    }

    /** Of a row of 40: CONST 1, then 19 times DUP with POPs between, and RETURN. */
    private static void typeFrom(RegisterTranslator x, int from, int to) {
        int[] begin = {Check.CONST, 1};
        int[] row = Check.join(begin, Check.times(18, Check.DUP, Check.POP),
            Check.row(Check.DUP, Check.RETURN));
        for (int place = from; place < to; place++) {
            CHECK.due("byte " + place, x.type(row[place], 1), true);
        }
    }

    /** Whatever define answers: a new draft begins at 0 and has room for 40. */
    private static void emptyAfterEveryDefine() {
        int[] fine = {Check.CONST, 1, Check.RETURN};
        for (int before : new int[] {0, 2, 36}) {
            RegisterTranslator x = new RegisterTranslator();
            fill(x, before);
            Check.define(x, -1, 0, fine);
            dueEmpty(x, "BAD parameters");
            fill(x, before);
            Check.define(x, 0, 7, fine);
            dueEmpty(x, "BAD locals");
            fill(x, before);
            Check.define(x, 0, 0, 22, Check.RETURN);
            dueEmpty(x, "MALFORMED");
            fill(x, before);
            Check.define(x, 0, 0, Check.POP, Check.RETURN);
            dueEmpty(x, "REFUSED");
            fill(x, before);
            Check.define(x, 0, 0, fine);
            dueEmpty(x, "a method");
            for (int k = 1; k < 6; k++) {
                CHECK.due("method " + k, Check.define(x, 0, 0, fine), k);
            }
            fill(x, before);
            CHECK.due("FULL", Check.define(x, 0, 0, fine), RegisterTranslator.FULL);
            x.type(Check.CONST, 1);
            CHECK.due("FULL", x.define(0, 0), RegisterTranslator.FULL);
            x.reset();
            dueEmpty(x, "FULL");
        }
    }

    /** So many bytes that go before a row and do nothing: jumps to what is behind them. */
    private static void fill(RegisterTranslator x, int bytes) {
        for (int k = 0; k < bytes; k += 2) {
            Check.type(x, Check.GOTO, 2);
        }
    }

    private static void dueEmpty(RegisterTranslator x, String after) {
        CHECK.due("empty after " + after, x.define(0, 0), RegisterTranslator.MALFORMED);
        CHECK.due("empty after " + after + ": fault", x.fault(), 0);
        for (int k = 0; k < 5; k++) {
            CHECK.due("40 bytes after " + after, x.type(0x1616_1616_1616_1616L, 8), true);
        }
        CHECK.due("41 bytes after " + after, x.type(0x16, 1), false);
        CHECK.due("40 bytes after " + after, x.define(0, 0), RegisterTranslator.MALFORMED);
    }

    private static void emptyAfterReset() {
        for (int length : new int[] {0, 1, 39, 40}) {
            RegisterTranslator x = new RegisterTranslator();
            for (int k = 0; k < length; k++) {
                x.type(Check.DUP, 1);
            }
            x.reset();
            dueEmpty(x, "reset of " + length);
        }
    }

    private static void otherCallsLeaveTheDraft() {
        RegisterTranslator x = new RegisterTranslator();
        Check.define(x, 0, 0, Check.CONST, 9, Check.RETURN);
        x.type(Check.CONST, 1);
        x.run(false, 0, 9);
        x.run(true, 0, 9);
        x.run(true, 1, 9);
        x.run(true, 0, 1001);
        x.arguments(1, 2, 3);
        x.depth(0, 0);
        x.state(0, 0, 8);
        x.first(9, 9);
        x.unit(0, 99);
        x.cell(0, 0);
        x.type(0, 9);
        x.type(0x0614, 2);
        CHECK.due("define", x.define(0, 0), 1);
        CHECK.dueUnits("CONST 6, RETURN", x, 1, 0x6012, 0x000F);
    }
}
