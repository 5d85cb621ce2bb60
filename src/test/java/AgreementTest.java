import java.util.ArrayList;
import java.util.List;
import java.util.Random;

/**
 * Drafts made from fixed seeds, most of them such that they can be verified, each answer of the class
 * held against the Reference; and stack code against register code of the same method. The class
 * does not count its calls, so an object is asked more than the 512 times here that are promised.
 */
public final class AgreementTest {
    private static final int OBJECTS = 4000;
    private static final Check CHECK = new Check();

    private final Random random;
    private final RegisterTranslator x = new RegisterTranslator();
    private final Reference y = new Reference();
    private final List<Integer> parameterCounts = new ArrayList<>();
    private static int defined;
    private static int refused;
    private static int malformed;
    private static final int[] ENDS = new int[7];

    private AgreementTest(long seed) {
        random = new Random(seed);
    }

    public static void main(String[] args) {
        for (int seed = 1; seed <= OBJECTS; seed++) {
            new AgreementTest(seed).live();
        }
        System.out.println(defined + " defined, " + refused + " refused, " + malformed
            + " malformed, ends " + java.util.Arrays.toString(ENDS));
        CHECK.due("enough are defined", defined > 3 * OBJECTS / 2, true);
        CHECK.due("enough are refused", refused > OBJECTS / 2, true);
        CHECK.due("enough are malformed", malformed > OBJECTS / 4, true);
        for (int end = 0; end < 7; end++) {
            CHECK.due("enough end with " + end, ENDS[end] > 100, true);
        }
        CHECK.end();
    }

    private void live() {
        for (int k = 0; k < 8; k++) {
            defineOne();
            for (int r = 0; r < 3; r++) {
                runOne();
            }
            if (random.nextInt(25) == 0) {
                x.reset();
                y.reset();
                parameterCounts.clear();
                compareOutcome("reset");
            }
        }
        compareMethods();
    }

    private void defineOne() {
        int parameters = random.nextInt(4);
        int locals = Math.min(6, parameters + random.nextInt(4));
        typeAll(new Draft(random, parameters, locals, parameterCounts).bytes());
        if (random.nextInt(30) == 0) {
            parameters = random.nextInt(9) - 2;
        }
        int want = y.define(parameters, locals);
        CHECK.due("define", x.define(parameters, locals), want);
        CHECK.due("fault", x.fault(), y.fault);
        CHECK.due("methods", x.methods(), y.methods());
        if (want >= 0) {
            parameterCounts.add(parameters);
            defined++;
        }
        refused += want == -4 ? 1 : 0;
        malformed += want == -3 ? 1 : 0;
    }

    private void typeAll(List<Integer> bytes) {
        int done = 0;
        while (done < bytes.size()) {
            int n = Math.min(bytes.size() - done, 1 + random.nextInt(8));
            long word = n == 8 ? 0 : random.nextLong() << 8 * n;
            for (int k = 0; k < n; k++) {
                word |= (long) bytes.get(done + k) << 8 * (n - 1 - k);
            }
            CHECK.due("type", x.type(word, n), y.type(word, n));
            done += n;
        }
    }

    private void runOne() {
        int a = number();
        int b = number();
        int c = number();
        x.arguments(a, b, c);
        y.arguments(a, b, c);
        int method = random.nextInt(Math.max(1, y.methods()) + (random.nextInt(20) == 0 ? 1 : 0));
        int budget = random.nextInt(3) == 0 ? random.nextInt(30) : 1000;
        int stack = runForm(false, method, budget);
        int value = x.value();
        int registers = runForm(true, method, budget);
        if (stack != 6 && registers != 6) {
            CHECK.due("both forms end", registers, stack);
            CHECK.due("both forms return", x.value(), value);
        }
    }

    private int runForm(boolean registers, int method, int budget) {
        int want = y.run(registers, method, budget);
        CHECK.due("run " + registers, x.run(registers, method, budget), want);
        compareOutcome("run " + registers);
        if (want >= 0) {
            ENDS[want]++;
        }
        return want;
    }

    private int number() {
        switch (random.nextInt(8)) {
            case 0: return random.nextInt();
            case 1: return Integer.MIN_VALUE;
            case 2: return -random.nextInt(4);
            default: return random.nextInt(20);
        }
    }

    private void compareOutcome(String what) {
        CHECK.due(what + ": value", x.value(), y.value);
        CHECK.due(what + ": steps", x.steps(), y.steps);
        CHECK.due(what + ": at", x.at(), y.at);
        CHECK.due(what + ": running", x.running(), y.running);
        for (int n = -1; n < 9; n++) {
            int size = y.cell(n, -1);
            for (int k = -2; k <= size + 1; k++) {
                CHECK.due(what + ": cell " + n + ", " + k, x.cell(n, k), y.cell(n, k));
            }
        }
    }

    private void compareMethods() {
        for (int m = -1; m < 8; m++) {
            CHECK.due("units", x.units(m), y.units(m));
            for (int k = -1; k <= y.units(m); k++) {
                CHECK.due("unit " + k, x.unit(m, k), y.unit(m, k));
            }
            for (int place = -1; place <= 41; place++) {
                CHECK.due("depth", x.depth(m, place), y.depth(m, place));
                CHECK.due("first", x.first(m, place), y.first(m, place));
                for (int slot = -1; slot <= 17; slot++) {
                    CHECK.due("state", x.state(m, place, slot), y.state(m, place, slot));
                }
            }
        }
    }
}
