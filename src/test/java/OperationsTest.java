/** The term OPERATIONS: what each of them does, and its LATENCY. */
public final class OperationsTest {
    private static final long LEAST = Long.MIN_VALUE;
    private static final long MOST = Long.MAX_VALUE;
    private static final Due due = new Due();

    public static void main(String[] args) {
        due.under("Terms, OPERATIONS");
        due.sentence("0 CONSTANT: the value a.", OperationsTest::constant);
        due.sentence("1 ADD", OperationsTest::add);
        due.sentence("2 SUBTRACT", OperationsTest::subtract);
        due.sentence("3 LESS (1 or 0)", OperationsTest::less);
        due.sentence("4 SAME (1 or 0)", OperationsTest::same);
        due.sentence(": positions a and b.", OperationsTest::positionsAAndB);
        due.sentence("5 MULTIPLY: positions a and b.", OperationsTest::multiply);
        due.sentence("6 DIVIDE (towards 0", OperationsTest::divideTowardsZero);
        due.sentence("TRAP 2 by 0", OperationsTest::divideByZero);
        due.sentence("the least value by -1 wraps).", OperationsTest::divideLeast);
        due.sentence("7 LOAD: the cell told by the value at position a.", OperationsTest::load);
        due.sentence("8 STORE: the value at position b goes to the cell told by that at a.",
                OperationsTest::store);
        due.sentence("(TRAP 3 of 7 and 8: the value at a is not 0 .. 15.)",
                OperationsTest::noSuchCell);
        due.sentence("9 SPILL: the value at position a goes to scratch cell b.",
                OperationsTest::spill);
        due.sentence("10 FILL: scratch cell a", OperationsTest::fill);
        due.sentence("(TRAP 5: nothing was spilled there).", OperationsTest::nothingSpilled);
        due.sentence("11 BRANCH: if the value at position a is not 0, to bundle b, keeping the "
                + "list.", OperationsTest::branch);
        due.sentence("12 JUMP to bundle b, keeping the list.", OperationsTest::jump);
        due.sentence("13 CALL of function a: the list are its arguments.", OperationsTest::call);
        due.sentence("14 RETURN: the list are the results.", OperationsTest::giveBack);
        due.sentence("(What is not told here of a, b and the list is not looked at.)",
                OperationsTest::notLookedAt);
        due.sentence("CONTROL, 11 to 14, is the last of a bundle.", OperationsTest::controlIsLast);
        due.sentence("LATENCY: 4 of DIVIDE", () -> latency(Asm.divide(0, 1), 4));
        due.sentence("3 of MULTIPLY", () -> latency(Asm.multiply(0, 1), 3));
        due.sentence("2 of LOAD", () -> latency(Asm.load(0), 2));
        due.sentence("1 of 0 to 4 and 10", OperationsTest::latencyOfOne);
        due.sentence("8 and 9 have no result.", OperationsTest::noResult);
        due.end();
    }

    /** What an operation drops, in a frame with two arguments. */
    private static long of(int[] operation, long first, long second) {
        BeltMachine m = Asm.program(2, 1, operation);
        Asm.pause(m, 0, 3);
        Asm.bundle(m, 0, Asm.giveBack(0));
        Asm.go(m, first, second, 0);
        due.over("code " + operation[0], m, 5);
        return m.result(0);
    }

    private static void constant() {
        int[] values = {0, 1, -1, 8, -77, Integer.MAX_VALUE, Integer.MIN_VALUE};
        for (int value : values) {
            due.same("CONSTANT", of(Asm.constant(value), 5, 5), value);
        }
    }

    private static void add() {
        due.same("5 and -7", of(Asm.add(0, 1), 5, -7), -2);
        due.same("a twice", of(Asm.add(0, 0), 5, -7), 10);
        due.same("b twice", of(Asm.add(1, 1), 5, -7), -14);
        due.same("wraps", of(Asm.add(0, 1), MOST, 1), LEAST);
        due.same("wraps", of(Asm.add(0, 1), LEAST, LEAST), 0);
    }

    private static void subtract() {
        due.same("5 and 7", of(Asm.subtract(0, 1), 5, 7), -2);
        due.same("7 and 5", of(Asm.subtract(1, 0), 5, 7), 2);
        due.same("wraps", of(Asm.subtract(0, 1), LEAST, 1), MOST);
        due.same("wraps", of(Asm.subtract(0, 1), 0, LEAST), LEAST);
    }

    private static void less() {
        due.same("less", of(Asm.less(0, 1), 5, 7), 1);
        due.same("more", of(Asm.less(1, 0), 5, 7), 0);
        due.same("the same", of(Asm.less(0, 1), 7, 7), 0);
        due.same("a negative one", of(Asm.less(0, 1), -7, 7), 1);
        due.same("by one bit above 32", of(Asm.less(0, 1), 7, 7 + (1L << 32)), 1);
        due.same("the least and the most", of(Asm.less(0, 1), LEAST, MOST), 1);
        due.same("the most and the least", of(Asm.less(0, 1), MOST, LEAST), 0);
    }

    private static void same() {
        due.same("the same", of(Asm.same(0, 1), -7, -7), 1);
        due.same("with itself", of(Asm.same(1, 1), 0, LEAST), 1);
        due.same("another", of(Asm.same(0, 1), 7, 8), 0);
        due.same("another sign", of(Asm.same(0, 1), 7, -7), 0);
        due.same("by one bit above 32", of(Asm.same(0, 1), 7, 7 + (1L << 32)), 0);
    }

    private static void positionsAAndB() {
        for (int a = 0; a < 8; a++) {
            for (int b = 0; b < 8; b++) {
                // The value at position i is 8 - i.
                BeltMachine m = Asm.fullBelt(0);
                Asm.bundle(m, 0, Asm.add(a, b), Asm.subtract(a, b), Asm.less(a, b), Asm.same(a, b));
                Asm.go(m, 0, 0, 3);
                due.same("ADD", m.belt(3), 16 - a - b);
                due.same("SUBTRACT", m.belt(2), b - a);
                due.same("LESS", m.belt(1), a > b ? 1 : 0);
                due.same("SAME", m.belt(0), a == b ? 1 : 0);
            }
        }
    }

    private static void multiply() {
        due.same("-6 and 7", of(Asm.multiply(0, 1), -6, 7), -42);
        due.same("a twice", of(Asm.multiply(0, 0), -6, 7), 36);
        due.same("b twice", of(Asm.multiply(1, 1), -6, 7), 49);
        due.same("by 0", of(Asm.multiply(0, 1), MOST, 0), 0);
        due.same("above 32 bits", of(Asm.multiply(0, 1), 1L << 31, 1L << 31), 1L << 62);
        due.same("wraps", of(Asm.multiply(0, 1), MOST, 2), -2);
        due.same("wraps to 0", of(Asm.multiply(0, 1), 1L << 32, 1L << 32), 0);
        due.same("the least by -1", of(Asm.multiply(0, 1), LEAST, -1), LEAST);
    }

    private static void divideTowardsZero() {
        due.same("7 by 2", of(Asm.divide(0, 1), 7, 2), 3);
        due.same("-7 by 2", of(Asm.divide(0, 1), -7, 2), -3);
        due.same("7 by -2", of(Asm.divide(0, 1), 7, -2), -3);
        due.same("-7 by -2", of(Asm.divide(0, 1), -7, -2), 3);
        due.same("-1 by 2", of(Asm.divide(0, 1), -1, 2), 0);
        due.same("0 by -22", of(Asm.divide(0, 1), 0, -22), 0);
        due.same("position 1 by position 0", of(Asm.divide(1, 0), 7, -22), -3);
        due.same("the least by the most", of(Asm.divide(0, 1), LEAST, MOST), -1);
        due.same("the most by the least", of(Asm.divide(0, 1), MOST, LEAST), 0);
        due.same("by 1 above 32 bits", of(Asm.divide(0, 1), LEAST + 5, 1), LEAST + 5);
    }

    private static void divideByZero() {
        for (long dividend : new long[] {7, 0, -1, LEAST}) {
            BeltMachine m = Asm.program(2, 0, Asm.divide(0, 1));
            m.force(0, dividend, 0);
            due.trap(dividend + " by 0", m, 2, 1);
            due.same("nothing is in flight", m.state(4), 0);
        }
        due.same("0 itself may be divided", of(Asm.divide(0, 1), 0, 5), 0);
        due.same("by 2^32", of(Asm.divide(0, 1), 1L << 40, 1L << 32), 256);
    }

    private static void divideLeast() {
        due.same("the least by -1", of(Asm.divide(0, 1), LEAST, -1), LEAST);
        due.same("the most by -1", of(Asm.divide(0, 1), MOST, -1), -MOST);
        due.same("one more by -1", of(Asm.divide(0, 1), LEAST + 1, -1), MOST);
    }

    private static void load() {
        for (int cell = 0; cell < 16; cell++) {
            BeltMachine m = Asm.program(2, 0, Asm.load(1));
            Asm.pause(m, 0, 1);
            m.setCell(cell, 100L + cell);
            Asm.go(m, 15 - cell, cell, 2);
            due.belt("cell " + cell, m, 100 + cell, 15 - cell, cell);
            due.same("it stays there", m.cell(cell), 100 + cell);
        }
        BeltMachine last = Asm.fullBelt(0);
        Asm.bundle(last, 0, Asm.load(7));
        Asm.pause(last, 0, 1);
        last.setCell(1, 55);
        Asm.go(last, 0, 0, 4);
        due.same("position 7", last.belt(0), 55);
    }

    private static void store() {
        for (int cell = 0; cell < 16; cell++) {
            BeltMachine m = Asm.program(2, 0, Asm.store(1, 0));
            Asm.go(m, -200 - cell, cell, 1);
            for (int other = 0; other < 16; other++) {
                due.same("cell " + other, m.cell(other), other == cell ? -200 - cell : 0);
            }
        }
        BeltMachine last = Asm.fullBelt(0);
        Asm.bundle(last, 0, Asm.store(7, 0), Asm.store(6, 7));
        Asm.go(last, 0, 0, 3);
        due.same("the cell told at 7", last.cell(1), 8);
        due.same("the value at 7", last.cell(2), 1);
    }

    private static void noSuchCell() {
        long[] wrong = {-1, 16, 17, 1L << 32, (1L << 32) + 3, LEAST, MOST};
        for (long cell : wrong) {
            BeltMachine load = Asm.program(2, 0, Asm.load(0));
            load.force(0, cell, 5);
            due.trap("LOAD of " + cell, load, 3, 1);
            due.same("nothing is in flight", load.state(4), 0);
            BeltMachine store = Asm.program(2, 0, Asm.store(0, 1));
            store.force(0, cell, 5);
            due.trap("STORE to " + cell, store, 3, 1);
            for (int other = 0; other < 16; other++) {
                due.same("cell " + other, store.cell(other), 0);
            }
        }
        for (int cell : new int[] {0, 15}) {
            BeltMachine m = Asm.program(2, 0, Asm.store(0, 1), Asm.load(0));
            Asm.go(m, cell, 99, 0);
            due.same("cell " + cell + " is one", m.run(1), 0);
        }
    }

    private static void spill() {
        for (int a = 0; a < 8; a++) {
            BeltMachine m = Asm.fullBelt(0);
            Asm.bundle(m, 0, Asm.spill(a, 7 - a));
            Asm.go(m, 0, 0, 3);
            for (int cell = 0; cell < 8; cell++) {
                int other = cell;
                if (cell == 7 - a) {
                    due.same("cell " + cell, m.scratch(cell), 8 - a);
                } else {
                    due.noElement("cell " + cell, () -> m.scratch(other));
                }
            }
        }
        BeltMachine twice = Asm.program(2, 0, Asm.spill(0, 5), Asm.spill(1, 5));
        Asm.go(twice, 3, 4, 1);
        due.same("the later one", twice.scratch(5), 4);
    }

    private static void fill() {
        for (int cell = 0; cell < 8; cell++) {
            BeltMachine m = Asm.program(2, 0, Asm.spill(1, cell), Asm.spill(0, cell + 1 & 7));
            Asm.bundle(m, 0, Asm.fill(cell), Asm.fill(cell + 1 & 7));
            Asm.bundle(m, 0, Asm.fill(cell));
            Asm.go(m, 40, 50 + cell, 2);
            due.belt("cell " + cell, m, 40, 50 + cell, 40, 50 + cell);
            m.run(1);
            due.same("it stays there", m.belt(0), 50 + cell);
        }
    }

    private static void nothingSpilled() {
        for (int cell = 0; cell < 8; cell++) {
            BeltMachine m = Asm.program(1, 0, Asm.spill(0, cell + 1 & 7), Asm.fill(cell));
            m.force(0, 5, 0);
            due.trap("cell " + cell, m, 5, 1);
            due.same("nothing is in flight", m.state(4), 0);
        }
        BeltMachine behind = Asm.program(1, 0, Asm.fill(2), Asm.spill(0, 2));
        behind.force(0, 5, 0);
        due.trap("spilled behind it", behind, 5, 1);
        BeltMachine caller = Asm.pair(1, 0, 1, 0);
        Asm.bundle(caller, 0, Asm.spill(0, 2), Asm.call(1, 0));
        Asm.bundle(caller, 1, Asm.fill(2));
        caller.force(0, 5, 0);
        due.trap("spilled by the caller", caller, 5, 2);
    }

    private static void branch() {
        for (long value : new long[] {1, -1, 2, 1L << 32, LEAST, MOST}) {
            BeltMachine m = Asm.program(2, 0, Asm.branch(1, 23, 1, 0, 1));
            Asm.go(m, 0, value, 1);
            due.same("bundle of " + value, m.state(2), 23);
            due.belt("keeps of " + value, m, value, 0, value);
        }
        BeltMachine stays = Asm.program(2, 0, Asm.branch(1, 23, 1, 0, 1));
        Asm.go(stays, 7, 0, 1);
        due.same("bundle of 0", stays.state(2), 1);
        due.belt("keeps all of 0", stays, 7, 0);
        BeltMachine back = Asm.program(2, 0);
        Asm.bundle(back, 0, Asm.branch(0, 0));
        Asm.go(back, 7, 8, 2);
        due.same("to bundle 0", back.state(2), 0);
        due.belt("keeps nothing", back);
        BeltMachine last = Asm.fullBelt(0);
        Asm.bundle(last, 0, Asm.branch(7, 5, 7));
        Asm.go(last, 0, 0, 3);
        due.same("by position 7", last.state(2), 5);
        due.belt("by position 7", last, 1);
    }

    private static void jump() {
        for (int bundle : new int[] {0, 1, 2, 23}) {
            BeltMachine m = Asm.program(4, 0);
            Asm.bundle(m, 0, Asm.jump(bundle, 3, 1, 0));
            Asm.go(m, 7, 8, 2);
            due.same("to bundle", m.state(2), bundle);
            due.belt("keeps three", m, 0, 8, 7);
        }
        BeltMachine none = Asm.program(4, 0, Asm.jump(1));
        Asm.go(none, 7, 8, 1);
        due.belt("keeps nothing", none);
    }

    private static void call() {
        for (int f = 1; f < 8; f++) {
            BeltMachine m = Asm.machine(2, 0);
            for (int i = 1; i < 8; i++) {
                m.function(i % 5, 0);
            }
            int[][] lists = {{}, {1}, {1, 0}, {1, 0, 1}, {1, 0, 1, 1}};
            long[][] belts = {{}, {4}, {4, 3}, {4, 3, 4}, {4, 3, 4, 4}};
            Asm.bundle(m, 0, Asm.call(f, lists[f % 5]));
            Asm.go(m, 3, 4, 1);
            due.same("function", m.state(1), f);
            due.belt("its arguments", m, belts[f % 5]);
        }
        BeltMachine itself = Asm.program(2, 0, Asm.call(0, 1, 0));
        Asm.go(itself, 3, 4, 1);
        due.same("itself", itself.state(3), 2);
        due.belt("itself", itself, 4, 3);
    }

    private static void giveBack() {
        int[][] lists = {{}, {3}, {1, 3}, {1, 1, 0}};
        long[][] results = {{}, {0}, {6, 0}, {6, 6, 5}};
        for (int count = 0; count <= 3; count++) {
            BeltMachine m = Asm.program(4, count, Asm.giveBack(lists[count]));
            m.start(0, 5, 6);
            due.over("RETURN", m, 1);
            for (int i = 0; i < count; i++) {
                due.same("result " + i, m.result(i), results[count][i]);
            }
            int none = count;
            due.noElement("no more", () -> m.result(none));
        }
    }

    /** By code: what is looked at, a, b and the list in this order. */
    private static final String[] LOOKED_AT = {
        "a", "ab", "ab", "ab", "ab", "ab", "ab", "a", "ab", "ab", "a", "abl", "bl", "al", "l",
    };

    /** Numbers that can't be, and those that would name an EMPTY position. */
    private static final int[] ODD = {Integer.MIN_VALUE, -1, 7, 8, 24, 0x99999999};

    private static void notLookedAt() {
        for (int code = 0; code <= 14; code++) {
            for (int odd : ODD) {
                int a = LOOKED_AT[code].contains("a") ? 0 : odd;
                int b = LOOKED_AT[code].contains("b") ? 1 : odd;
                int list = LOOKED_AT[code].contains("l") ? 0x1 : odd;
                String what = "code " + code + " with " + odd;
                BeltMachine m = Asm.program(1, 1, Asm.spill(0, 0));
                Asm.bundle(m, 0, Asm.constant(3));
                m.bundle(0);
                due.same(what, m.operation(0, code, a, b, list), 1);
                Asm.pause(m, 0, 4);
                Asm.bundle(m, 0, Asm.giveBack(0));
                due.sound(what, m);
                Asm.go(m, 2, 0, 2);
                due.same(what, m.run(1) == 2 ? m.state(0) : 0, 0);
            }
        }
    }

    private static void controlIsLast() {
        for (int code = 11; code <= 14; code++) {
            BeltMachine m = Asm.program(0, 0);
            due.same("CONTROL " + code, m.operation(0, code, 0, 0, 0), 1);
            for (int next = 0; next <= 14; next++) {
                int behind = next;
                due.illegalState(next + " behind " + code, () -> m.operation(0, behind, 0, 0, 0));
            }
            m.bundle(0);
            for (int i = 1; i < 4; i++) {
                m.operation(0, 0, 1, 0, 0);
            }
            due.same("as the fourth", m.operation(0, code, 0, 0, 0), 4);
        }
        BeltMachine m = Asm.program(0, 0);
        for (int code : new int[] {8, 9, 10}) {
            m.operation(0, code, 0, 0, 0);
        }
        due.same("0 to 10 are no CONTROL", m.operation(0, 0, 0, 0, 0), 4);
    }

    /** The result is on the belt behind so many cycles, and in flight ahead of that. */
    private static void latency(int[] operation, int latency) {
        BeltMachine m = Asm.program(2, 0, Asm.spill(0, 6));
        Asm.bundle(m, 0, operation);
        Asm.pause(m, 0, 5);
        Asm.go(m, 4, 2, 1);
        for (int cycle = 1; cycle <= 5; cycle++) {
            m.run(1);
            String what = "code " + operation[0] + " in cycle " + cycle;
            due.same(what + ": in flight", m.state(4), cycle < latency ? 1 : 0);
            due.same(what + ": on the belt", m.belt(latency > cycle ? 0 : 1), 4);
        }
        due.noElement("it drops once", () -> m.belt(3));
    }

    private static void latencyOfOne() {
        for (int code = 0; code <= 4; code++) {
            latency(Asm.withTwoArguments()[code], 1);
        }
        latency(Asm.fill(6), 1);
    }

    private static void noResult() {
        for (int code = 8; code <= 9; code++) {
            BeltMachine m = Asm.program(2, 0, Asm.withTwoArguments()[code]);
            Asm.pause(m, 0, 5);
            Asm.go(m, 4, 2, 0);
            for (int cycle = 1; cycle <= 5; cycle++) {
                m.run(1);
                due.same("in flight", m.state(4), 0);
                due.belt("code " + code, m, 4, 2);
            }
        }
    }
}
