/** Promises 11 to 15: the belt, the results, the scratch cells and the memory. */
public final class ReadTest {
    private static final Due due = new Due();
    private static final int[] FAR = {Integer.MIN_VALUE, -1, 8, 16, Integer.MAX_VALUE};

    public static void main(String[] args) {
        belts();
        beltOfTheFrameOnTop();
        beltAtATrap();
        results();
        resultsOnlyOfAReturn();
        scratchCells();
        scratchAtATrap();
        cells();
        cellsAndRuns();
        due.end();
    }

    private static void belts() {
        BeltMachine m = Asm.machine(2, 0);
        Asm.bundle(m, 0, Asm.constant(1), Asm.constant(2), Asm.constant(3), Asm.constant(4));
        Asm.bundle(m, 0, Asm.constant(5), Asm.constant(6), Asm.constant(7));
        Asm.bundle(m, 0, Asm.giveBack());
        due.noElement("11: no run", () -> m.belt(0));
        m.start(0, -1, Long.MIN_VALUE);
        due.same("11: position 0", m.belt(0), -1);
        due.same("11: position 1", m.belt(1), Long.MIN_VALUE);
        due.noElement("11: position 2 is empty", () -> m.belt(2));
        due.noElement("11: position 7 is empty", () -> m.belt(7));
        m.run(2);
        long[] full = {7, 6, 5, 4, 3, 2, 1, -1};
        for (int i = 0; i < 8; i++) {
            due.same("11: position " + i, m.belt(i), full[i]);
        }
        for (int position : FAR) {
            due.noElement("11: position " + position, () -> m.belt(position));
        }
        m.run(1);
        due.noElement("11: no frame", () -> m.belt(0));
        m.start(0, 9, 9);
        due.noElement("11: nothing of an earlier run", () -> m.belt(2));
    }

    private static void beltOfTheFrameOnTop() {
        BeltMachine m = Asm.machine(2, 0);
        m.function(1, 0);
        Asm.bundle(m, 0, Asm.call(1, 1));
        Asm.bundle(m, 0, Asm.giveBack());
        Asm.bundle(m, 1, Asm.giveBack());
        m.start(0, 4, 5);
        m.run(1);
        due.same("11: of the one called", m.belt(0), 5);
        due.noElement("11: no more of it", () -> m.belt(1));
        m.run(1);
        due.same("11: of the caller", m.belt(0), 4);
        due.same("11: of the caller", m.belt(1), 5);
    }

    private static void beltAtATrap() {
        BeltMachine m = Asm.machine(2, 0);
        Asm.bundle(m, 0, Asm.constant(1), Asm.fill(0));
        m.force(0, 4, 5);
        due.same("9: trap", m.run(1), 2);
        due.same("11: at a trap", m.belt(0), 4);
        due.same("11: at a trap", m.belt(1), 5);
        due.noElement("11: nothing has dropped", () -> m.belt(2));
    }

    private static void results() {
        for (int count = 0; count <= 3; count++) {
            BeltMachine m = Asm.machine(3, count);
            int[] positions = {2, 0, 1};
            Asm.bundle(m, 0, Asm.giveBack(java.util.Arrays.copyOf(positions, count)));
            m.start(0, 4, 5);
            m.run(1);
            long[] want = {0, 4, 5};
            for (int i = 0; i < count; i++) {
                due.same("12: result " + i, m.result(i), want[i]);
            }
            int none = count;
            due.noElement("12: result " + none, () -> m.result(none));
            for (int i : FAR) {
                due.noElement("12: result " + i, () -> m.result(i));
            }
        }
    }

    private static void resultsOnlyOfAReturn() {
        BeltMachine m = Asm.machine(1, 1);
        m.function(1, 1);
        Asm.bundle(m, 0, Asm.call(1, 0));
        Asm.bundle(m, 0, Asm.divide(0, 0));
        Asm.pause(m, 0, 3);
        Asm.bundle(m, 0, Asm.giveBack(0));
        Asm.bundle(m, 1, Asm.giveBack(0));
        due.noElement("12: no run", () -> m.result(0));
        m.start(0, 5, 0);
        due.noElement("12: not over", () -> m.result(0));
        m.run(2);
        due.noElement("12: the RETURN of another frame", () -> m.result(0));
        m.run(9);
        due.same("12: over", m.result(0), 1);
        due.same("12: asked again", m.result(0), 1);
        m.setCell(0, 3);
        m.check(0);
        due.same("12: it stays", m.result(0), 1);
        m.start(0, 0, 0);
        due.noElement("12: a new run", () -> m.result(0));
        due.same("9: trap", m.run(9), 2);
        due.noElement("12: over by a trap", () -> m.result(0));
    }

    private static void scratchCells() {
        BeltMachine m = Asm.machine(2, 0);
        Asm.bundle(m, 0, Asm.spill(0, 0), Asm.spill(1, 7));
        Asm.bundle(m, 0, Asm.spill(1, 0));
        Asm.bundle(m, 0, Asm.giveBack());
        due.noElement("13: no run", () -> m.scratch(0));
        m.start(0, Long.MAX_VALUE, 0);
        due.noElement("13: nothing spilled", () -> m.scratch(0));
        m.run(1);
        due.same("13: cell 0", m.scratch(0), Long.MAX_VALUE);
        due.same("13: cell 7", m.scratch(7), 0);
        for (int cell = 1; cell < 7; cell++) {
            int other = cell;
            due.noElement("13: cell " + other, () -> m.scratch(other));
        }
        for (int cell : FAR) {
            due.noElement("13: cell " + cell, () -> m.scratch(cell));
        }
        due.noElement("13: cell 32", () -> m.scratch(32));
        m.run(1);
        due.same("13: spilled again", m.scratch(0), 0);
        m.run(1);
        due.noElement("13: no frame", () -> m.scratch(0));
        m.start(0, 1, 2);
        due.noElement("13: a new run", () -> m.scratch(0));
    }

    private static void scratchAtATrap() {
        BeltMachine m = Asm.machine(1, 0);
        Asm.bundle(m, 0, Asm.spill(0, 4), Asm.add(0, 1));
        m.force(0, 6, 0);
        due.same("9: trap", m.run(1), 2);
        due.same("13: at a trap", m.scratch(4), 6);
    }

    private static void cells() {
        BeltMachine m = new BeltMachine();
        for (int i = 0; i < 16; i++) {
            due.isTrue("15: cell " + i, m.setCell(i, (1L << 40) - i));
        }
        for (int i = 0; i < 16; i++) {
            due.same("14: cell " + i, m.cell(i), (1L << 40) - i);
        }
        for (int cell : new int[] {Integer.MIN_VALUE, -1, 16, 17, Integer.MAX_VALUE}) {
            due.isTrue("15: cell " + cell, !m.setCell(cell, 1));
            due.outOfBounds("14: cell " + cell, () -> m.cell(cell));
        }
        for (int i = 0; i < 16; i++) {
            due.same("14: cell " + i + " as it was", m.cell(i), (1L << 40) - i);
        }
    }

    private static void cellsAndRuns() {
        BeltMachine m = Asm.machine(2, 1);
        Asm.bundle(m, 0, Asm.store(0, 1));
        Asm.bundle(m, 0, Asm.load(0));
        Asm.pause(m, 0, 1);
        Asm.bundle(m, 0, Asm.giveBack(0));
        m.setCell(15, 1);
        m.start(0, 15, 2);
        due.same("14: a start stores nothing", m.cell(15), 1);
        m.run(1);
        due.same("14: stored", m.cell(15), 2);
        due.isTrue("15: within a run", m.setCell(15, 3));
        m.run(1);
        m.setCell(15, 4);
        m.run(2);
        due.same("12: loaded as it was then", m.result(0), 3);
        m.start(0, 0, 0);
        due.same("14: it stays", m.cell(15), 4);
    }
}
