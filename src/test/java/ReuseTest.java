/** Nothing of an earlier draft, method or run shows in a later one (promises 3, 5, 7 to 11 and 13). */
public final class ReuseTest {
    private static final Check CHECK = new Check();

    public static void main(String[] args) {
        placesOfAMalformedDraft();
        statesOfARefusedDraft();
        stackOfARefusedDraft();
        stackOfAnotherPath();
        unitsOfAnEarlierMethod();
        stacksOfEarlierRuns();
        sameAnswersAgain();
        CHECK.end();
    }

    private static void placesOfAMalformedDraft() {
        RegisterTranslator x = new RegisterTranslator();
        Check.define(x, 0, 0, Check.DUP, Check.DUP, Check.DUP, 22);
        int answer = Check.define(x, 0, 0, Check.GOTO, 1, Check.RETURN);
        CHECK.due("a target inside an instruction", answer, RegisterTranslator.MALFORMED);
        CHECK.due("its place", x.fault(), 0);
    }

    private static void statesOfARefusedDraft() {
        RegisterTranslator x = new RegisterTranslator();
        int answer = Check.define(x, 1, 1, Check.LOAD, 0, Check.IFZERO, 4, Check.POP, Check.RETURN,
            Check.CONST, 1, Check.RETURN);
        CHECK.due("refused while place 6 is new", answer, RegisterTranslator.REFUSED);
        CHECK.due("at", x.fault(), 4);
        answer = Check.define(x, 0, 0, Check.GOTO, 0, Check.GOTO, 0, Check.GOTO, 0, Check.ADD,
            Check.RETURN);
        CHECK.due("place 6 is not reached", answer, 0);
        CHECK.due("its depth", x.depth(0, 6), -1);
        CHECK.due("its first unit", x.first(0, 6), -1);
        CHECK.due("units", x.units(0), 2);
    }

    private static void stackOfARefusedDraft() {
        RegisterTranslator x = new RegisterTranslator();
        Check.define(x, 0, 0, Check.CONST, 1, Check.CONST, 1, Check.LENGTH, Check.RETURN);
        CHECK.due("refused at", x.fault(), 4);
        CHECK.due("the next one", Check.define(x, 0, 0, Check.CONST, 1, Check.RETURN), 0);
        CHECK.due("its depth", x.depth(0, 0), 0);
        CHECK.due("its slot", x.state(0, 0, 8), 0);
        Check.define(x, 0, 0, Check.POP, Check.CONST, 1, Check.RETURN);
        CHECK.due("an empty stack", x.fault(), 0);
    }

    private static void stackOfAnotherPath() {
        RegisterTranslator x = new RegisterTranslator();
        int answer = Check.define(x, 1, 1, Check.LOAD, 0, Check.IFZERO, 7, Check.CONST, 1,
            Check.CONST, 1, Check.RETURN, Check.POP, Check.GOTO, -1);
        CHECK.due("a POP of nothing", answer, RegisterTranslator.REFUSED);
        CHECK.due("its place", x.fault(), 9);
    }

    private static void unitsOfAnEarlierMethod() {
        RegisterTranslator x = new RegisterTranslator();
        Check.define(x, 2, 2, Check.LOAD, 0, Check.LOAD, 1, Check.ADD, Check.RETURN);
        CHECK.due("units", x.units(0), 5);
        x.reset();
        CHECK.due("a shorter one", Check.define(x, 0, 0, Check.CONST, 1, Check.RETURN), 0);
        CHECK.dueUnits("its units", x, 0, 0x1012, 0x000F);
        CHECK.due("no place of the earlier one", x.depth(0, 4), -1);
    }

    private static void stacksOfEarlierRuns() {
        RegisterTranslator x = new RegisterTranslator();
        Check.define(x, 0, 6, Check.CONST, 1, Check.DUP, Check.DUP, Check.DUP, Check.DUP, Check.DUP,
            Check.DUP, Check.CONST, 42, Check.RETURN);
        Check.define(x, 0, 6, Check.CONST, 1, Check.CALL, 0, Check.ADD, Check.RETURN);
        for (int k = 0; k < 20; k++) {
            CHECK.dueRun("values left", x, false, Check.with(0, 99), 0, 42, 9, 10, 0);
            CHECK.dueRun("values left inside", x, false, Check.with(1, 99), 0, 43, 13, 5, 1);
        }
    }

    private static void sameAnswersAgain() {
        RegisterTranslator x = new RegisterTranslator();
        Check.define(x, 2, 2, Check.LOAD, 0, Check.NEW, Check.DUP, Check.CONST, 0, Check.LOAD, 1,
            Check.SET, Check.CONST, 0, Check.GET, Check.RETURN);
        for (int k = 0; k < 20; k++) {
            x.arguments(60, k, 0);
            CHECK.dueRun("run " + k, x, k % 2 == 0, Check.with(0, 99), 0, k, 9,
                k % 2 == 0 ? 11 : 12, 0);
            CHECK.due("one array", x.cell(1, -1), -1);
            CHECK.due("its cell", x.cell(0, 0), k);
        }
    }
}
