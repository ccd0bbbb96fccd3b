/** Short words for writing programs; an operation is told as {code, a, b, list}. */
final class Asm {
    /** Stands where the document says that a thing is not looked at. */
    static final int ODD = -77;

    private Asm() {
    }

    static int list(int... positions) {
        int list = 0;
        for (int i = 0; i < positions.length; i++) {
            list |= positions[i] + 1 << 4 * i;
        }
        return list;
    }

    static int[] constant(int value) {
        return new int[] {0, value, ODD, ODD};
    }

    static int[] add(int a, int b) {
        return new int[] {1, a, b, ODD};
    }

    static int[] subtract(int a, int b) {
        return new int[] {2, a, b, ODD};
    }

    static int[] less(int a, int b) {
        return new int[] {3, a, b, ODD};
    }

    static int[] same(int a, int b) {
        return new int[] {4, a, b, ODD};
    }

    static int[] multiply(int a, int b) {
        return new int[] {5, a, b, ODD};
    }

    static int[] divide(int a, int b) {
        return new int[] {6, a, b, ODD};
    }

    static int[] load(int a) {
        return new int[] {7, a, ODD, ODD};
    }

    static int[] store(int a, int b) {
        return new int[] {8, a, b, ODD};
    }

    static int[] spill(int a, int cell) {
        return new int[] {9, a, cell, ODD};
    }

    static int[] fill(int cell) {
        return new int[] {10, cell, ODD, ODD};
    }

    static int[] branch(int a, int bundle, int... keeping) {
        return new int[] {11, a, bundle, list(keeping)};
    }

    static int[] jump(int bundle, int... keeping) {
        return new int[] {12, ODD, bundle, list(keeping)};
    }

    static int[] call(int function, int... arguments) {
        return new int[] {13, function, ODD, list(arguments)};
    }

    static int[] giveBack(int... results) {
        return new int[] {14, ODD, ODD, list(results)};
    }

    /** By code, of the operations that withTwoArguments() answers. */
    static final int[] LATENCIES = {1, 1, 1, 1, 1, 3, 4, 2, 0, 0};

    /** Codes 0 to 9, each in a form that two arguments suffice for; 9 spills to cell 1. */
    static int[][] withTwoArguments() {
        return new int[][] {
            constant(3), add(0, 1), subtract(0, 1), less(0, 1), same(0, 1), multiply(0, 1),
            divide(0, 1), load(0), store(0, 1), spill(0, 1),
        };
    }

    /** Every way to name position 2, for a function 0 with two arguments and two results. */
    static int[][] namingPosition2() {
        return new int[][] {
            add(0, 2), add(2, 0), subtract(0, 2), subtract(2, 0), less(0, 2), less(2, 0),
            same(0, 2), same(2, 0), multiply(0, 2), multiply(2, 0), divide(0, 2), divide(2, 0),
            load(2), store(0, 2), store(2, 0), spill(2, 0), branch(2, 0), branch(0, 0, 1, 2),
            jump(0, 2), jump(0, 0, 1, 0, 1, 0, 1, 0, 2), call(0, 0, 2), call(0, 2, 0),
            giveBack(0, 2), giveBack(2, 0),
        };
    }

    /** A machine with function 0, without bundles. */
    static BeltMachine machine(int arguments, int results) {
        BeltMachine m = new BeltMachine();
        m.function(arguments, results);
        return m;
    }

    static void bundle(BeltMachine m, int function, int[]... operations) {
        m.bundle(function);
        for (int[] o : operations) {
            m.operation(function, o[0], o[1], o[2], o[3]);
        }
    }

    /** Bundles without operations: cycles in which nothing issues. */
    static void pause(BeltMachine m, int function, int cycles) {
        for (int i = 0; i < cycles; i++) {
            m.bundle(function);
        }
    }
}
