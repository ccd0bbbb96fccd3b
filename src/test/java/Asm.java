/** Short words for writing programs; an operation is told as {code, a, b, list}. */
final class Asm {
    /** Stands where the document says that a thing is not looked at. */
    static final int ODD = -77;

    private Asm() {
    }

    static int list(int... positions) {
        int list = 0;
        for (int i = 0; i < positions.length; i++) {
            list |= positions[i] + 1 << 4 * i;
        }
        return list;
    }

    static int[] constant(int value) {
        return new int[] {0, value, ODD, ODD};
    }

    static int[] add(int a, int b) {
        return new int[] {1, a, b, ODD};
    }

    static int[] subtract(int a, int b) {
        return new int[] {2, a, b, ODD};
    }

    static int[] less(int a, int b) {
        return new int[] {3, a, b, ODD};
    }

    static int[] same(int a, int b) {
        return new int[] {4, a, b, ODD};
    }

    static int[] multiply(int a, int b) {
        return new int[] {5, a, b, ODD};
    }

    static int[] divide(int a, int b) {
        return new int[] {6, a, b, ODD};
    }

    static int[] load(int a) {
        return new int[] {7, a, ODD, ODD};
    }

    static int[] store(int a, int b) {
        return new int[] {8, a, b, ODD};
    }

    static int[] spill(int a, int cell) {
        return new int[] {9, a, cell, ODD};
    }

    static int[] fill(int cell) {
        return new int[] {10, cell, ODD, ODD};
    }

    static int[] branch(int a, int bundle, int... keeping) {
        return new int[] {11, a, bundle, list(keeping)};
    }

    static int[] jump(int bundle, int... keeping) {
        return new int[] {12, ODD, bundle, list(keeping)};
    }

    static int[] call(int function, int... arguments) {
        return new int[] {13, function, ODD, list(arguments)};
    }

    static int[] giveBack(int... results) {
        return new int[] {14, ODD, ODD, list(results)};
    }

    static void bundle(BeltMachine m, int function, int[]... operations) {
        m.bundle(function);
        for (int[] o : operations) {
            m.operation(function, o[0], o[1], o[2], o[3]);
        }
    }

    /** Bundles without operations: cycles in which nothing issues. */
    static void pause(BeltMachine m, int function, int cycles) {
        for (int i = 0; i < cycles; i++) {
            m.bundle(function);
        }
    }
}
