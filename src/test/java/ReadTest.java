/** Promises 11 to 15: the belt, the results, the scratch cells and the memory. */
public final class ReadTest {
    private static final Due due = new Due();

    public static void main(String[] args) {
        due.under("Promise 11: belt");
        due.sentence("The value at a position of the belt of the frame on top.", ReadTest::belt);
        due.sentence("NoSuchElementException if it is EMPTY", ReadTest::emptyPosition);
        due.sentence("or there is none such", ReadTest::noSuchPosition);
        due.sentence("or no frame.", ReadTest::beltWithoutFrame);
        due.under("Promise 12: result");
        due.sentence("Result i of a run that is over by a RETURN.", ReadTest::results);
        due.sentence("NoSuchElementException if there is none such.", ReadTest::noSuchResult);
        due.sentence("NoSuchElementException if there is none such.", ReadTest::notOverByReturn);
        due.under("Promise 13: scratch");
        due.sentence("A scratch cell of the frame on top.", ReadTest::scratch);
        due.sentence("NoSuchElementException if there is none such", ReadTest::noSuchScratchCell);
        due.sentence("nothing was spilled there", ReadTest::nothingSpilled);
        due.sentence("or there is no frame.", ReadTest::scratchWithoutFrame);
        due.under("Promise 14: cell");
        due.sentence("A cell of memory.", ReadTest::cells);
        due.sentence("IndexOutOfBoundsException if there is none such.", ReadTest::noSuchCell);
        due.under("Promise 15: setCell");
        due.sentence("A cell of memory gets a value: true", ReadTest::setCells);
        due.sentence("false if there is none such.", ReadTest::setNoSuchCell);
        due.end();
    }

    private static void belt() {
        BeltMachine m = Asm.pair(2, 0, 1, 0);
        Asm.bundle(m, 0, Asm.constant(3), Asm.call(1, 1));
        Asm.bundle(m, 0, Asm.giveBack());
        Asm.bundle(m, 1, Asm.constant(7));
        Asm.bundle(m, 1, Asm.giveBack());
        m.start(0, -1, Long.MIN_VALUE);
        due.belt("at the beginning", m, -1, Long.MIN_VALUE);
        m.run(1);
        due.belt("of the callee", m, Long.MIN_VALUE);
        m.run(1);
        due.belt("of the callee", m, 7, Long.MIN_VALUE);
        m.run(1);
        due.belt("of the caller", m, 3, -1, Long.MIN_VALUE);
        due.belt("asked again", m, 3, -1, Long.MIN_VALUE);
        BeltMachine trap = Asm.program(2, 0, Asm.constant(1), Asm.fill(0));
        Asm.go(trap, 4, 5, 1);
        due.belt("at a trap", trap, 4, 5);
        BeltMachine full = Asm.fullBelt(0);
        Asm.go(full, 0, 0, 2);
        due.belt("a full one", full, 8, 7, 6, 5, 4, 3, 2, 1);
    }

    private static void emptyPosition() {
        BeltMachine m = Asm.program(4, 0, Asm.jump(1, 0));
        Asm.bundle(m, 0, Asm.jump(0));
        m.force(0, 5, 6);
        int[] filled = {4, 1, 0};
        for (int count : filled) {
            for (int i = count; i < 8; i++) {
                int position = i;
                due.noElement(count + " filled, position " + i, () -> m.belt(position));
            }
            m.run(1);
        }
        BeltMachine again = Asm.fullBelt(0);
        Asm.go(again, 0, 0, 2);
        again.force(0, 0, 0);
        due.noElement("nothing of an earlier run", () -> again.belt(0));
    }

    private static void noSuchPosition() {
        BeltMachine m = Asm.fullBelt(0);
        Asm.go(m, 0, 0, 2);
        for (int wrong : Asm.FAR) {
            due.noElement("position " + wrong, () -> m.belt(wrong));
        }
        due.noElement("position 8", () -> m.belt(8));
        due.same("position 7", m.belt(7), 1);
    }

    private static void beltWithoutFrame() {
        BeltMachine m = Asm.program(2, 0, Asm.giveBack());
        due.noElement("no run", () -> m.belt(0));
        m.start(0, 5, 6);
        m.run(1);
        for (int i = 0; i < 8; i++) {
            int position = i;
            due.noElement("over by a RETURN, position " + i, () -> m.belt(position));
        }
    }

    private static void results() {
        int[][] lists = {{}, {2}, {2, 0}, {2, 0, 1}};
        long[] want = {0, Long.MIN_VALUE, Long.MAX_VALUE};
        for (int count = 0; count <= 3; count++) {
            BeltMachine m = Asm.program(3, count, Asm.giveBack(lists[count]));
            m.start(0, Long.MIN_VALUE, Long.MAX_VALUE);
            m.run(1);
            for (int i = 0; i < count; i++) {
                due.same("result " + i, m.result(i), want[i]);
                due.same("asked again", m.result(i), want[i]);
            }
            m.setCell(0, 3);
            due.same("a run that is over", m.run(5), 1);
            due.same("a check", m.check(0), 0);
            due.illegalArgument("a start that throws", () -> m.start(1, 0, 0));
            for (int i = 0; i < count; i++) {
                due.same("it stays: result " + i, m.result(i), want[i]);
            }
        }
    }

    private static void noSuchResult() {
        int[][] lists = {{}, {1}, {1, 1}, {1, 1, 1}};
        for (int count = 0; count <= 3; count++) {
            BeltMachine m = Asm.program(2, count, Asm.giveBack(lists[count]));
            Asm.go(m, 5, 6, 1);
            for (int i = count; i <= 8; i++) {
                int none = i;
                due.noElement("result " + i + " of " + count, () -> m.result(none));
            }
            for (int wrong : Asm.FAR) {
                due.noElement("result " + wrong, () -> m.result(wrong));
            }
        }
    }

    private static void notOverByReturn() {
        BeltMachine m = Asm.pair(1, 1, 1, 1);
        Asm.bundle(m, 0, Asm.call(1, 0));
        Asm.bundle(m, 0, Asm.divide(0, 0));
        Asm.pause(m, 0, 3);
        Asm.bundle(m, 0, Asm.giveBack(0));
        Asm.bundle(m, 1, Asm.giveBack(0));
        due.noElement("no run", () -> m.result(0));
        m.start(0, 5, 0);
        due.noElement("just begun", () -> m.result(0));
        m.run(2);
        due.noElement("behind a callee's RETURN", () -> m.result(0));
        due.over("over", m, 7);
        due.same("result", m.result(0), 1);
        m.start(0, 0, 0);
        due.noElement("a new run", () -> m.result(0));
        due.trap("by 0", m, 2, 3);
        due.noElement("over by a trap", () -> m.result(0));
    }

    private static void scratch() {
        BeltMachine m = Asm.pair(2, 0, 1, 0);
        Asm.bundle(m, 0, Asm.spill(0, 0), Asm.spill(1, 7), Asm.call(1, 1));
        Asm.bundle(m, 0, Asm.spill(1, 0));
        Asm.bundle(m, 0, Asm.giveBack());
        Asm.bundle(m, 1, Asm.spill(0, 0));
        Asm.bundle(m, 1, Asm.giveBack());
        m.start(0, Long.MAX_VALUE, -4);
        m.run(2);
        due.same("of the callee", m.scratch(0), -4);
        m.run(1);
        due.same("of the caller", m.scratch(0), Long.MAX_VALUE);
        due.same("of the caller", m.scratch(7), -4);
        m.run(1);
        due.same("spilled again", m.scratch(0), -4);
        BeltMachine trap = Asm.program(1, 0, Asm.spill(0, 4), Asm.add(0, 1));
        Asm.go(trap, 6, 0, 1);
        due.same("at a trap", trap.scratch(4), 6);
        BeltMachine zero = Asm.program(1, 0, Asm.spill(0, 4));
        Asm.go(zero, 0, 0, 1);
        due.same("a 0 was spilled too", zero.scratch(4), 0);
    }

    private static void noSuchScratchCell() {
        BeltMachine m = Asm.program(1, 0, Asm.spill(0, 0), Asm.spill(0, 7));
        Asm.go(m, 6, 0, 1);
        for (int wrong : Asm.FAR) {
            due.noElement("cell " + wrong, () -> m.scratch(wrong));
        }
        due.noElement("cell 8", () -> m.scratch(8));
        due.noElement("cell 39", () -> m.scratch(39));
        due.same("cell 7", m.scratch(7), 6);
        due.same("cell 0", m.scratch(0), 6);
    }

    private static void nothingSpilled() {
        for (int spilled = 0; spilled < 8; spilled++) {
            BeltMachine m = Asm.pair(1, 0, 1, 0);
            Asm.bundle(m, 0, Asm.spill(0, spilled), Asm.call(1, 0));
            m.force(0, 6, 0);
            noneSpilled("at the beginning", m, 8);
            m.run(1);
            noneSpilled("of the callee", m, 8);
            BeltMachine one = Asm.program(1, 0, Asm.spill(0, spilled));
            Asm.go(one, 6, 0, 1);
            noneSpilled("but one", one, spilled);
            one.force(0, 7, 0);
            noneSpilled("of a new run", one, 8);
        }
    }

    private static void noneSpilled(String what, BeltMachine m, int but) {
        for (int i = 0; i < 8; i++) {
            int cell = i;
            if (i != but) {
                due.noElement(what + ": cell " + i, () -> m.scratch(cell));
            }
        }
    }

    private static void scratchWithoutFrame() {
        BeltMachine m = Asm.program(1, 0, Asm.spill(0, 3));
        Asm.bundle(m, 0, Asm.giveBack());
        due.noElement("no run", () -> m.scratch(3));
        m.start(0, 5, 0);
        m.run(1);
        due.same("there is one", m.scratch(3), 5);
        m.run(1);
        due.noElement("over by a RETURN", () -> m.scratch(3));
    }

    private static void cells() {
        BeltMachine m = Asm.program(2, 1, Asm.store(0, 1));
        Asm.bundle(m, 0, Asm.load(0));
        Asm.pause(m, 0, 1);
        Asm.bundle(m, 0, Asm.giveBack(0));
        m.setCell(15, 1);
        m.start(0, 15, Long.MIN_VALUE);
        due.same("a start stores nothing", m.cell(15), 1);
        m.run(1);
        due.same("a STORE", m.cell(15), Long.MIN_VALUE);
        m.run(9);
        due.same("a run that is over", m.cell(15), Long.MIN_VALUE);
        m.start(0, 0, 7);
        due.same("a new run", m.cell(15), Long.MIN_VALUE);
        m.run(1);
        due.same("the first", m.cell(0), 7);
        due.same("the last", m.cell(15), Long.MIN_VALUE);
        m.force(0, 16, 9);
        due.trap("STORE to 16", m, 3, 1);
        due.same("at a trap", m.cell(15), Long.MIN_VALUE);
        due.same("one between", m.cell(7), 0);
    }

    private static void noSuchCell() {
        BeltMachine m = new BeltMachine();
        for (int wrong : Asm.FAR) {
            due.outOfBounds("cell " + wrong, () -> m.cell(wrong));
        }
        due.outOfBounds("cell 16", () -> m.cell(16));
        due.same("cell 15", m.cell(15), 0);
        due.same("cell 0", m.cell(0), 0);
    }

    private static void setCells() {
        BeltMachine m = Asm.program(1, 1, Asm.load(0));
        Asm.pause(m, 0, 1);
        Asm.bundle(m, 0, Asm.giveBack(0));
        for (int cell = 0; cell < 16; cell++) {
            due.isTrue("cell " + cell, m.setCell(cell, (1L << 40) - cell));
        }
        for (int cell = 0; cell < 16; cell++) {
            due.same("cell " + cell, m.cell(cell), (1L << 40) - cell);
        }
        due.isTrue("again", m.setCell(3, Long.MIN_VALUE));
        m.start(0, 3, 0);
        due.isTrue("within a run", m.setCell(4, -1));
        m.run(1);
        due.isTrue("behind the LOAD", m.setCell(3, 5));
        due.over("a run", m, 3);
        due.same("what the LOAD took", m.result(0), Long.MIN_VALUE);
        due.same("what it is now", m.cell(3), 5);
        due.same("what was set within the run", m.cell(4), -1);
    }

    private static void setNoSuchCell() {
        BeltMachine m = new BeltMachine();
        for (int wrong : Asm.FAR) {
            due.isTrue("cell " + wrong, !m.setCell(wrong, 1));
        }
        due.isTrue("cell 16", !m.setCell(16, 1));
        for (int cell = 0; cell < 16; cell++) {
            due.same("cell " + cell + " as it was", m.cell(cell), 0);
        }
    }
}
