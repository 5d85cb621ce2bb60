import java.util.ArrayList;
import java.util.Arrays;
import java.util.List;
import java.util.Map;
import java.util.TreeMap;
import java.util.TreeSet;

/**
 * The document once more, written as plainly as can be and in another way than the class: states are
 * lists, runs are recursive, and register code is not run from its units but by counting its lines
 * beside a run of the stack code. AgreementTest holds the class against it.
 */
final class Reference {
    private static final String[] NAMES = {"CONST", "LOAD", "STORE", "ADD", "SUB", "MUL", "DIV",
        "REM", "DUP", "POP", "SWAP", "GOTO", "IFZERO", "IFNEG", "IFLESS", "NEW", "GET", "SET",
        "LENGTH", "CALL", "RETURN", "INC"};
    /** What is popped (n a number, a an array, x both), the top last, then what is pushed. */
    private static final String[] EFFECTS = {":n", null, null, "nn:n", "nn:n", "nn:n", "nn:n",
        "nn:n", null, "x:", null, ":", "n:", "n:", "nn:", "n:a", "an:n", "ann:", "a:n", null, "n:",
        ":"};

    static final class Code {
        int parameters;
        int locals;
        List<Integer> bytes;
        final TreeSet<Integer> places = new TreeSet<>();
        final TreeMap<Integer, State> states = new TreeMap<>();
        final TreeMap<Integer, Integer> firsts = new TreeMap<>();
        final List<Integer> units = new ArrayList<>();

        String name(int place) {
            return NAMES[bytes.get(place)];
        }

        int number(int place) {
            int b = bytes.get(place);
            return b > 127 ? b - 256 : b;
        }

        int target(int place) {
            return place + number(place + 1);
        }

        int behind(int place) {
            Integer next = places.higher(place);
            return next == null ? bytes.size() : next;
        }
    }

    /** Kinds as letters: n, a, and - for nothing. */
    static final class State {
        final char[] locals;
        final String stack;

        State(char[] locals, String stack) {
            this.locals = locals;
            this.stack = stack;
        }
    }

    private static final class Fault extends RuntimeException {
        private static final long serialVersionUID = 1L;
        final int place;

        Fault(int place) {
            this.place = place;
        }
    }

    private static final class End extends RuntimeException {
        private static final long serialVersionUID = 1L;
        final int how;

        End(int how) {
            this.how = how;
        }
    }

    private List<Integer> draft = new ArrayList<>();
    private final List<Code> codes = new ArrayList<>();
    private int[] given = new int[3];
    int fault = -1;
    int value = 0;
    int steps = 0;
    int at = -1;
    int running = -1;
    private List<int[]> arrays = new ArrayList<>();
    private boolean inRegisters;
    private int budget;
    private int deep;

    boolean type(long bytes, int n) {
        if (n < 1 || n > 8 || draft.size() + n > 40) {
            return false;
        }
        String hex = String.format("%016x", bytes).substring(16 - 2 * n);
        for (int k = 0; k < n; k++) {
            draft.add(Integer.parseInt(hex.substring(2 * k, 2 * k + 2), 16));
        }
        return true;
    }

    int define(int parameters, int locals) {
        Code code = new Code();
        code.bytes = draft;
        code.parameters = parameters;
        code.locals = locals;
        draft = new ArrayList<>();
        fault = -1;
        if (parameters < 0 || parameters > 3 || locals < parameters || locals > 6) {
            return -1;
        }
        if (codes.size() == 6) {
            return -2;
        }
        codes.add(code);
        int answer = -3;
        try {
            checkForm(code);
            answer = -4;
            verify(code);
            translate(code);
            return codes.size() - 1;
        } catch (Fault found) {
            fault = found.place;
            codes.remove(codes.size() - 1);
            return answer;
        }
    }

    void reset() {
        codes.clear();
        draft.clear();
    }

    int methods() {
        return codes.size();
    }

    void arguments(int a, int b, int c) {
        given = new int[] {a, b, c};
    }

    private Code code(int method) {
        return method < 0 || method >= codes.size() ? null : codes.get(method);
    }

    private State stateAt(int method, int place) {
        Code code = code(method);
        return code == null ? null : code.states.get(place);
    }

    int depth(int method, int place) {
        State state = stateAt(method, place);
        return state == null ? -1 : state.stack.length();
    }

    int state(int method, int place, int slot) {
        State state = stateAt(method, place);
        if (state == null || slot < 0) {
            return 0;
        }
        if (slot < state.locals.length) {
            return "-na".indexOf(state.locals[slot]);
        }
        if (slot >= 8 && slot - 8 < state.stack.length()) {
            return "-na".indexOf(state.stack.charAt(slot - 8));
        }
        return 0;
    }

    int first(int method, int place) {
        return stateAt(method, place) == null ? -1 : code(method).firsts.get(place);
    }

    int units(int method) {
        return code(method) == null ? -1 : code(method).units.size();
    }

    int unit(int method, int k) {
        return k < 0 || k >= units(method) ? -1 : code(method).units.get(k);
    }

    int cell(int n, int k) {
        boolean there = n >= 0 && n < arrays.size();
        if (k == -1) {
            return there ? arrays.get(n).length : -1;
        }
        return there && k >= 0 && k < arrays.get(n).length ? arrays.get(n)[k] : 0;
    }

    private void checkForm(Code code) {
        if (code.bytes.isEmpty()) {
            throw new Fault(0);
        }
        int place = 0;
        while (place < code.bytes.size()) {
            int operation = code.bytes.get(place);
            if (operation >= NAMES.length) {
                throw new Fault(place);
            }
            String name = NAMES[operation];
            int more = name.equals("INC") ? 2
                : Arrays.asList("CONST", "LOAD", "STORE", "GOTO", "IFZERO", "IFNEG", "IFLESS",
                    "CALL").contains(name) ? 1 : 0;
            if (place + more >= code.bytes.size()) {
                throw new Fault(place);
            }
            code.places.add(place);
            place += 1 + more;
        }
        for (int p : code.places) {
            checkParts(code, p);
        }
    }

    private void checkParts(Code code, int place) {
        String name = code.name(place);
        boolean wrong = false;
        if (name.equals("LOAD") || name.equals("STORE") || name.equals("INC")) {
            wrong = code.bytes.get(place + 1) >= code.locals;
        }
        if (name.startsWith("IF") || name.equals("GOTO")) {
            wrong = !code.places.contains(code.target(place));
        }
        if (name.equals("CALL")) {
            wrong = code.bytes.get(place + 1) >= codes.size();
        }
        boolean last = place == code.places.last();
        if (wrong || last && !name.equals("GOTO") && !name.equals("RETURN")) {
            throw new Fault(place);
        }
    }

    private void verify(Code code) {
        TreeSet<Integer> fresh = new TreeSet<>();
        char[] locals = new char[code.locals];
        for (int k = 0; k < code.locals; k++) {
            locals[k] = k < code.parameters ? 'n' : '-';
        }
        code.states.put(0, new State(locals, ""));
        fresh.add(0);
        while (!fresh.isEmpty()) {
            int place = fresh.pollFirst();
            State after = after(code, place, code.states.get(place));
            if (!code.name(place).equals("GOTO") && !code.name(place).equals("RETURN")) {
                meet(code, code.behind(place), after, fresh);
            }
            if (code.name(place).equals("GOTO") || code.name(place).startsWith("IF")) {
                meet(code, code.target(place), after, fresh);
            }
        }
    }

    private void meet(Code code, int place, State coming, TreeSet<Integer> fresh) {
        State there = code.states.get(place);
        if (there == null) {
            code.states.put(place, coming);
            fresh.add(place);
            return;
        }
        if (!there.stack.equals(coming.stack)) {
            throw new Fault(place);
        }
        char[] locals = there.locals.clone();
        for (int k = 0; k < locals.length; k++) {
            if (locals[k] != coming.locals[k]) {
                locals[k] = '-';
            }
        }
        if (!Arrays.equals(locals, there.locals)) {
            code.states.put(place, new State(locals, there.stack));
            fresh.add(place);
        }
    }

    private State after(Code code, int place, State before) {
        char[] locals = before.locals.clone();
        String stack = before.stack;
        String name = code.name(place);
        int size = stack.length();
        boolean fits = true;
        if (name.equals("LOAD")) {
            char kind = locals[code.bytes.get(place + 1)];
            fits = kind != '-';
            stack = stack + kind;
        } else if (name.equals("STORE")) {
            fits = size >= 1;
            if (fits) {
                locals[code.bytes.get(place + 1)] = stack.charAt(size - 1);
                stack = stack.substring(0, size - 1);
            }
        } else if (name.equals("DUP")) {
            fits = size >= 1;
            stack = fits ? stack + stack.charAt(size - 1) : stack;
        } else if (name.equals("SWAP")) {
            fits = size >= 2;
            stack = fits ? stack.substring(0, size - 2) + stack.charAt(size - 1)
                + stack.charAt(size - 2) : stack;
        } else {
            fits = !name.equals("INC") || locals[code.bytes.get(place + 1)] == 'n';
            String[] effect = effect(code, place).split(":", -1);
            fits = fits && endsWith(stack, effect[0]);
            stack = fits ? stack.substring(0, size - effect[0].length()) + effect[1] : stack;
        }
        if (!fits || stack.length() > 8) {
            throw new Fault(place);
        }
        return new State(locals, stack);
    }

    private String effect(Code code, int place) {
        if (code.name(place).equals("CALL")) {
            return "nnn".substring(0, parametersOfCalled(code, place)) + ":n";
        }
        return EFFECTS[code.bytes.get(place)];
    }

    private int parametersOfCalled(Code code, int place) {
        return codes.get(code.bytes.get(place + 1)).parameters;
    }

    private static boolean endsWith(String stack, String kinds) {
        int under = stack.length() - kinds.length();
        if (under < 0) {
            return false;
        }
        for (int k = 0; k < kinds.length(); k++) {
            if (kinds.charAt(k) != 'x' && kinds.charAt(k) != stack.charAt(under + k)) {
                return false;
            }
        }
        return true;
    }

    private void translate(Code code) {
        // twice: the second time every target's first unit is known
        for (int round = 0; round < 2; round++) {
            code.units.clear();
            for (Map.Entry<Integer, State> entry : code.states.entrySet()) {
                code.firsts.put(entry.getKey(), code.units.size());
                for (int unit : unitsOf(code, entry.getKey(), entry.getValue())) {
                    code.units.add(Math.floorMod(unit, 0x10000));
                }
            }
        }
    }

    private int[] unitsOf(Code code, int place, State state) {
        String stack = state.stack;
        int t = code.locals + stack.length() - 1;
        int u = t + 1;
        String name = code.name(place);
        int f = 0;
        if (name.startsWith("IF") || name.equals("GOTO")) {
            f = code.firsts.getOrDefault(code.target(place), 0) - code.firsts.get(place);
        }
        int k = place + 1 < code.bytes.size() ? code.bytes.get(place + 1) : 0;
        int b = place + 1 < code.bytes.size() ? code.number(place + 1) : 0;
        switch (name) {
            case "CONST":
                return -8 <= b && b <= 7
                    ? new int[] {0x12 + u * 0x100 + Math.floorMod(b, 0x10) * 0x1000}
                    : new int[] {0x13 + u * 0x100, b};
            case "LOAD": return new int[] {copy(u, k, state.locals[k])};
            case "STORE": return new int[] {copy(k, t, fromTop(stack, 1))};
            case "DUP": return new int[] {copy(u, t, fromTop(stack, 1))};
            case "POP": return new int[0];
            case "SWAP": return new int[] {copy(u, t, fromTop(stack, 1)),
                copy(t, t - 1, fromTop(stack, 2)), copy(t - 1, u, fromTop(stack, 1))};
            case "ADD": return new int[] {0x90 + (t - 1) * 0x100, t - 1 + t * 0x100};
            case "SUB": return new int[] {0x91 + (t - 1) * 0x100, t - 1 + t * 0x100};
            case "MUL": return new int[] {0x92 + (t - 1) * 0x100, t - 1 + t * 0x100};
            case "DIV": return new int[] {0x93 + (t - 1) * 0x100, t - 1 + t * 0x100};
            case "REM": return new int[] {0x94 + (t - 1) * 0x100, t - 1 + t * 0x100};
            case "INC": return new int[] {0xD8 + k * 0x100, k + code.bytes.get(place + 2) * 0x100};
            case "GOTO": return new int[] {0x29, f};
            case "IFZERO": return new int[] {0x38 + t * 0x100, f};
            case "IFNEG": return new int[] {0x3A + t * 0x100, f};
            case "IFLESS": return new int[] {0x34 + (t - 1) * 0x100 + t * 0x1000, f};
            case "NEW": return new int[] {0x23 + t * 0x100 + t * 0x1000, 0};
            case "GET": return new int[] {0x44 + (t - 1) * 0x100, t - 1 + t * 0x100};
            case "SET": return new int[] {0x4B + t * 0x100, t - 2 + (t - 1) * 0x100};
            case "LENGTH": return new int[] {0x21 + t * 0x100 + t * 0x1000};
            case "RETURN": return new int[] {0xF + t * 0x100};
            default: return unitsOfCall(k, parametersOfCalled(code, place), t);
        }
    }

    private static int[] unitsOfCall(int m, int p, int t) {
        int r = t - p + 1;
        int registers = (p > 0 ? r : 0) + (p > 1 ? (r + 1) * 0x10 : 0) + (p > 2 ? (r + 2) * 0x100 : 0);
        return new int[] {0x71 + p * 0x1000, m, registers, 0xA + r * 0x100};
    }

    private static int copy(int x, int y, char kind) {
        return (kind == 'n' ? 1 : 7) + x * 0x100 + y * 0x1000;
    }

    private static char fromTop(String stack, int k) {
        return stack.charAt(stack.length() - k);
    }

    int run(boolean registers, int method, int steps0) {
        if (code(method) == null || steps0 < 0 || steps0 > 1000) {
            return -1;
        }
        inRegisters = registers;
        budget = steps0;
        steps = 0;
        value = 0;
        deep = 0;
        arrays = new ArrayList<>();
        try {
            value = call(method, Arrays.copyOf(given, code(method).parameters));
            return 0;
        } catch (End end) {
            return end.how;
        }
    }

    /** A step is about to be done at this place or unit. */
    private void begin(int method, int where) {
        at = where;
        running = method;
        if (steps == budget) {
            throw new End(6);
        }
    }

    /** All lines of an instruction but its last one are done here, none of which can end a run. */
    private void beginInstruction(Code code, int method, int place) {
        if (!inRegisters) {
            begin(method, place);
            return;
        }
        int first = code.firsts.get(place);
        int lines = code.name(place).equals("SWAP") ? 3 : 1;
        for (int line = 0; line < lines; line++) {
            begin(method, first + line);
            if (line < lines - 1) {
                steps++;
            }
        }
    }

    private int call(int method, int[] arguments) {
        deep++;
        Code code = code(method);
        int[] locals = Arrays.copyOf(arguments, code.locals);
        ArrayList<Integer> stack = new ArrayList<>();
        int place = 0;
        while (true) {
            String name = code.name(place);
            if (!(inRegisters && name.equals("POP"))) {
                beginInstruction(code, method, place);
            }
            int next = code.behind(place);
            if (name.equals("RETURN")) {
                steps++;
                deep--;
                return pop(stack);
            } else if (name.equals("CALL")) {
                callInside(code, method, place, stack);
            } else if (name.equals("POP")) {
                pop(stack);
                steps += inRegisters ? 0 : 1;
            } else if (name.equals("GOTO") || name.startsWith("IF")) {
                next = jumps(name, stack) ? code.target(place) : next;
                steps++;
            } else {
                simple(code, place, locals, stack);
                steps++;
            }
            place = next;
        }
    }

    private void callInside(Code code, int method, int place, ArrayList<Integer> stack) {
        if (deep == 8) {
            throw new End(5);
        }
        steps++;
        int[] arguments = new int[parametersOfCalled(code, place)];
        for (int k = arguments.length - 1; k >= 0; k--) {
            arguments[k] = pop(stack);
        }
        int result = call(code.bytes.get(place + 1), arguments);
        if (inRegisters) {
            begin(method, code.firsts.get(place) + 3);
            steps++;
        }
        stack.add(result);
    }

    private static boolean jumps(String name, ArrayList<Integer> stack) {
        if (name.equals("GOTO")) {
            return true;
        }
        int top = pop(stack);
        return name.equals("IFZERO") ? top == 0 : name.equals("IFNEG") ? top < 0 : pop(stack) < top;
    }

    private static int pop(ArrayList<Integer> stack) {
        return stack.remove(stack.size() - 1);
    }

    private void simple(Code code, int place, int[] locals, ArrayList<Integer> stack) {
        String name = code.name(place);
        if (name.equals("CONST")) {
            stack.add(code.number(place + 1));
        } else if (name.equals("LOAD")) {
            stack.add(locals[code.bytes.get(place + 1)]);
        } else if (name.equals("STORE")) {
            locals[code.bytes.get(place + 1)] = pop(stack);
        } else if (name.equals("INC")) {
            locals[code.bytes.get(place + 1)] += code.number(place + 2);
        } else if (name.equals("DUP")) {
            stack.add(stack.get(stack.size() - 1));
        } else if (name.equals("SWAP")) {
            int top = pop(stack);
            stack.add(stack.size() - 1, top);
        } else if (name.equals("NEW")) {
            stack.add(newArray(pop(stack)));
        } else if (name.equals("LENGTH")) {
            stack.add(arrays.get(pop(stack)).length);
        } else if (name.equals("GET")) {
            int index = pop(stack);
            stack.add(checked(pop(stack), index)[index]);
        } else if (name.equals("SET")) {
            int number = pop(stack);
            int index = pop(stack);
            checked(pop(stack), index)[index] = number;
        } else {
            int b = pop(stack);
            stack.add(reckoned(name, pop(stack), b));
        }
    }

    private static int reckoned(String name, int a, int b) {
        if ((name.equals("DIV") || name.equals("REM")) && b == 0) {
            throw new End(1);
        }
        switch (name) {
            case "ADD": return a + b;
            case "SUB": return a - b;
            case "MUL": return a * b;
            case "DIV": return a / b;
            default: return a % b;
        }
    }

    private int newArray(int size) {
        if (size < 0) {
            throw new End(2);
        }
        long together = size;
        for (int[] array : arrays) {
            together += array.length;
        }
        if (arrays.size() == 8 || together > 64) {
            throw new End(4);
        }
        arrays.add(new int[size]);
        return arrays.size() - 1;
    }

    private int[] checked(int array, int index) {
        if (index < 0 || index >= arrays.get(array).length) {
            throw new End(3);
        }
        return arrays.get(array);
    }
}
