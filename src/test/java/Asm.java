/** Short words for writing programs; an operation is told as {code, a, b, list}. */
final class Asm {
    /** Stands where the document says that a thing is not looked at. */
    static final int ODD = -77;

    /** Numbers that are too small or too large for whatever has a place, a number or a cell. */
    static final int[] FAR = {Integer.MIN_VALUE, -1, 24, 32, 1 << 30, Integer.MAX_VALUE};

    private Asm() {
    }

    static int list(int... positions) {
        int list = 0;
        for (int i = 0; i < positions.length; i++) {
            list |= positions[i] + 1 << 4 * i;
        }
        return list;
    }

    static int[] constant(int value) {
        return new int[] {0, value, ODD, ODD};
    }

    static int[] add(int a, int b) {
        return new int[] {1, a, b, ODD};
    }

    static int[] subtract(int a, int b) {
        return new int[] {2, a, b, ODD};
    }

    static int[] less(int a, int b) {
        return new int[] {3, a, b, ODD};
    }

    static int[] same(int a, int b) {
        return new int[] {4, a, b, ODD};
    }

    static int[] multiply(int a, int b) {
        return new int[] {5, a, b, ODD};
    }

    static int[] divide(int a, int b) {
        return new int[] {6, a, b, ODD};
    }

    static int[] load(int a) {
        return new int[] {7, a, ODD, ODD};
    }

    static int[] store(int a, int b) {
        return new int[] {8, a, b, ODD};
    }

    static int[] spill(int a, int cell) {
        return new int[] {9, a, cell, ODD};
    }

    static int[] fill(int cell) {
        return new int[] {10, cell, ODD, ODD};
    }

    static int[] branch(int a, int bundle, int... keeping) {
        return new int[] {11, a, bundle, list(keeping)};
    }

    static int[] jump(int bundle, int... keeping) {
        return new int[] {12, ODD, bundle, list(keeping)};
    }

    static int[] call(int function, int... arguments) {
        return new int[] {13, function, ODD, list(arguments)};
    }

    static int[] giveBack(int... results) {
        return new int[] {14, ODD, ODD, list(results)};
    }

    /** By code, of the operations that withTwoArguments() answers. */
    static final int[] LATENCIES = {1, 1, 1, 1, 1, 3, 4, 2, 0, 0};

    /** Codes 0 to 9, each in a form that two arguments suffice for; 9 spills to cell 1. */
    static int[][] withTwoArguments() {
        return new int[][] {
            constant(3), add(0, 1), subtract(0, 1), less(0, 1), same(0, 1), multiply(0, 1),
            divide(0, 1), load(0), store(0, 1), spill(0, 1),
        };
    }

    /** Every way to name position 2, for a function 0 with two arguments and two results. */
    static int[][] namingPosition2() {
        return new int[][] {
            add(0, 2), add(2, 0), subtract(0, 2), subtract(2, 0), less(0, 2), less(2, 0),
            same(0, 2), same(2, 0), multiply(0, 2), multiply(2, 0), divide(0, 2), divide(2, 0),
            load(2), store(0, 2), store(2, 0), spill(2, 0), branch(2, 0), branch(0, 0, 1, 2),
            jump(0, 2), jump(0, 0, 1, 0, 1, 0, 1, 0, 2), call(0, 0, 2), call(0, 2, 0),
            giveBack(0, 2), giveBack(2, 0),
        };
    }

    /** A machine with function 0, without bundles. */
    static BeltMachine machine(int arguments, int results) {
        BeltMachine m = new BeltMachine();
        m.function(arguments, results);
        return m;
    }

    /** A machine with function 0, which has these operations in bundle 0. */
    static BeltMachine program(int arguments, int results, int[]... operations) {
        BeltMachine m = machine(arguments, results);
        bundle(m, 0, operations);
        return m;
    }

    /** Functions 0 and 1, without bundles: the first one may call the second. */
    static BeltMachine pair(int arguments, int results, int ofCallee, int resultsOfCallee) {
        BeltMachine m = machine(arguments, results);
        m.function(ofCallee, resultsOfCallee);
        return m;
    }

    /** Function 0 whose belt is full behind two cycles: the value at position i is 8 - i. */
    static BeltMachine fullBelt(int results) {
        BeltMachine m = program(0, results, constant(1), constant(2), constant(3), constant(4));
        bundle(m, 0, constant(5), constant(6), constant(7), constant(8));
        return m;
    }

    static void bundle(BeltMachine m, int function, int[]... operations) {
        m.bundle(function);
        for (int[] o : operations) {
            m.operation(function, o[0], o[1], o[2], o[3]);
        }
    }

    /** Bundles without operations: cycles in which nothing issues. */
    static void pause(BeltMachine m, int function, int cycles) {
        for (int i = 0; i < cycles; i++) {
            m.bundle(function);
        }
    }

    /** Begins a run of function 0, without a check, and goes on for some cycles. */
    static void go(BeltMachine m, long first, long second, int cycles) {
        m.force(0, first, second);
        if (cycles > 0) {
            m.run(cycles);
        }
    }
}
