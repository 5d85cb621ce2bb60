import java.util.ArrayList;
import java.util.Collections;
import java.util.List;
import java.util.Random;

/** Makes a draft whose instructions mostly find on the stack what they pop. */
final class Draft {
    private final Random random;
    private final List<Integer> called;
    private final char[] locals;
    /** Each instruction's bytes, and the stack that was meant to be before it. */
    private final List<int[]> instructions = new ArrayList<>();
    private final List<String> stacks = new ArrayList<>();
    private String stack = "";
    private int size = 0;

    Draft(Random random, int parameters, int localCount, List<Integer> called) {
        this.random = random;
        this.called = new ArrayList<>(called);
        this.called.add(parameters);
        locals = "------".substring(0, localCount).toCharArray();
        for (int k = 0; k < parameters; k++) {
            locals[k] = 'n';
        }
    }

    List<Integer> bytes() {
        int wanted = random.nextInt(20) == 0 ? 40 : 4 + random.nextInt(33);
        for (int tries = 0; tries < 200 && size < wanted - 4; tries++) {
            addOne(random.nextInt(22));
        }
        addEnd();
        aim();
        List<Integer> bytes = new ArrayList<>();
        for (int[] instruction : instructions) {
            for (int b : instruction) {
                bytes.add(b & 0xFF);
            }
        }
        spoil(bytes);
        return bytes;
    }

    private void add(String after, int... bytes) {
        if (after.length() > 8 && random.nextInt(20) != 0) {
            return;
        }
        instructions.add(bytes);
        stacks.add(stack);
        size += bytes.length;
        stack = after.length() > 8 ? after.substring(0, 8) : after;
    }

    private boolean ends(String kinds) {
        return stack.endsWith(kinds);
    }

    private String without(int n) {
        return stack.substring(0, stack.length() - n);
    }

    private char top(int k) {
        return stack.charAt(stack.length() - k);
    }

    private void addOne(int operation) {
        if (operation == Check.CONST) {
            add(stack + 'n', operation, random.nextInt(3) == 0 ? random.nextInt(256)
                : random.nextInt(24) - 10);
        } else if (operation == Check.LOAD || operation == Check.STORE || operation == Check.INC) {
            addOfLocal(operation);
        } else if (operation >= Check.ADD && operation <= Check.REM && ends("nn")) {
            add(without(1), operation);
        } else if (operation == Check.DUP && !stack.isEmpty()) {
            add(stack + top(1), operation);
        } else if (operation == Check.POP && !stack.isEmpty() && random.nextBoolean()) {
            add(without(1), operation);
        } else if (operation == Check.SWAP && stack.length() > 1) {
            add(without(2) + top(1) + top(2), operation);
        } else if (operation == Check.GOTO && random.nextInt(4) == 0) {
            add(stack, operation, 0);
        } else if ((operation == Check.IFZERO || operation == Check.IFNEG) && ends("n")) {
            add(without(1), operation, 0);
        } else if (operation == Check.IFLESS && ends("nn")) {
            add(without(2), operation, 0);
        } else if (operation == Check.CALL) {
            addCall();
        } else if (operation >= Check.NEW && operation <= Check.LENGTH) {
            addOfArrays(operation);
        } else if (random.nextInt(300) == 0) {
            add(stack, operation);
        }
    }

    private void addOfLocal(int operation) {
        if (locals.length == 0) {
            return;
        }
        int k = random.nextInt(locals.length);
        if (operation == Check.LOAD && locals[k] != '-') {
            add(stack + locals[k], operation, k);
        } else if (operation == Check.INC && locals[k] == 'n') {
            add(stack, operation, k, random.nextInt(256));
        } else if (operation == Check.STORE && !stack.isEmpty()) {
            locals[k] = top(1);
            add(without(1), operation, k);
        }
    }

    private void addCall() {
        int m = random.nextInt(4) == 0 ? called.size() - 1 : random.nextInt(called.size());
        int p = called.get(m);
        if (ends("nnn".substring(0, p))) {
            add(without(p) + 'n', Check.CALL, m);
        }
    }

    private void addOfArrays(int operation) {
        if (operation == Check.NEW && ends("n")) {
            add(without(1) + 'a', operation);
        } else if (operation == Check.GET && ends("an")) {
            add(without(2) + 'n', operation);
        } else if (operation == Check.SET && ends("ann")) {
            add(without(3), operation);
        } else if (operation == Check.LENGTH && ends("a")) {
            add(without(1) + 'n', operation);
        }
    }

    private void addEnd() {
        if (random.nextInt(8) == 0) {
            add(stack, Check.GOTO, 0);
            return;
        }
        if (!ends("n")) {
            if (stack.length() == 8) {
                add(without(1), Check.POP);
            }
            add(stack + 'n', Check.CONST, random.nextInt(100));
        }
        add(stack, Check.RETURN);
    }

    /** Gives each jump a target, mostly one before which the stack was meant to be the same. */
    private void aim() {
        List<Integer> places = new ArrayList<>();
        int place = 0;
        for (int[] instruction : instructions) {
            places.add(place);
            place += instruction.length;
        }
        for (int k = 0; k < instructions.size(); k++) {
            int[] instruction = instructions.get(k);
            boolean jumps = instruction[0] >= Check.GOTO && instruction[0] <= Check.IFLESS;
            if (jumps && instruction.length == 2) {
                instruction[1] = places.get(target(k)) - places.get(k);
            }
        }
    }

    private int target(int k) {
        String after = k + 1 < stacks.size() ? stacks.get(k + 1) : stacks.get(k);
        List<Integer> order = new ArrayList<>();
        for (int n = 0; n < instructions.size(); n++) {
            order.add(n);
        }
        Collections.shuffle(order, random);
        for (int n : order) {
            boolean forward = n > k || random.nextInt(3) == 0;
            if (forward && stacks.get(n).equals(after) && random.nextInt(30) != 0) {
                return n;
            }
        }
        return k + 1 < instructions.size() ? k + 1 : order.get(0);
    }

    private void spoil(List<Integer> bytes) {
        int luck = random.nextInt(30);
        if (luck == 0) {
            bytes.set(random.nextInt(bytes.size()), random.nextInt(256));
        } else if (luck == 1) {
            bytes.set(random.nextInt(bytes.size()), random.nextInt(24));
        } else if (luck == 2) {
            bytes.remove(random.nextInt(bytes.size()));
        } else if (luck == 3) {
            bytes.clear();
        }
    }
}
