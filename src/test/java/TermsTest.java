/** The terms FUNCTIONS, BELT and LIST, and what the document says of objects and constants. */
public final class TermsTest {
    private static final Due due = new Due();

    public static void main(String[] args) {
        due.under("What it is");
        due.sentence("An object is used for at most 512 calls after it has been made",
                TermsTest::calls512);
        due.under("Terms, the constants");
        due.sentence("The constants: `NONE = -1`: None.", TermsTest::none);
        due.under("Terms, FUNCTIONS");
        due.sentence("FUNCTIONS 0 .. 7", TermsTest::functions);
        due.sentence("have 0 to 4 ARGUMENTS", TermsTest::arguments);
        due.sentence("0 to 3 RESULTS", TermsTest::results);
        due.sentence("and BUNDLES 0, 1, .. (24 at most in a function)", TermsTest::bundles);
        due.sentence("of 0 to 4 OPERATIONS.", TermsTest::operations);
        due.sentence("There are 16 CELLS of memory", TermsTest::cells);
        due.sentence("each FRAME has 8 SCRATCH cells.", TermsTest::scratchCells);
        due.sentence("VALUES are longs", TermsTest::longs);
        due.sentence("that wrap.", TermsTest::wrapAround);
        due.under("Terms, BELT");
        due.sentence("A BELT has 8 POSITIONS, 0 the newest", TermsTest::positions);
        due.sentence("those from some place on are EMPTY.", TermsTest::empty);
        due.sentence("To DROP a value: it is at 0, all others move on by one", TermsTest::drop);
        due.sentence("what was at 7 is gone.", TermsTest::gone);
        due.under("Terms, LIST");
        due.sentence("A LIST names positions: told as position + 1 in four bits each, the first "
                + "one lowest", TermsTest::listOfPositions);
        due.sentence("up to a 0", TermsTest::listUpToZero);
        due.sentence("8 at most (further bits are not looked at).", TermsTest::listOfEight);
        due.end();
    }

    private static void calls512() {
        BeltMachine m = new BeltMachine();
        int calls = 0;
        for (int f = 0; f < 8; f++) {
            m.function(0, 0);
            for (int bundle = 0; bundle < 24; bundle++) {
                Asm.bundle(m, f, Asm.jump((bundle + 1) % 24));
                calls += 2;
            }
            due.same("sound", m.check(f), 0);
            calls += 2;
        }
        m.start(7, 0, 0);
        calls++;
        int cycles = 0;
        for (; calls < 510; calls++) {
            due.same("goes on", m.run(10000), 0);
            cycles += 10000;
        }
        due.same("cycles, call 511", m.state(5), cycles);
        due.same("bundle, call 512", m.state(2), cycles % 24);
    }

    private static void none() {
        due.same("NONE", BeltMachine.NONE, -1);
    }

    private static void functions() {
        BeltMachine m = new BeltMachine();
        for (int f = 0; f < 8; f++) {
            due.same("number", m.function(0, 1), f);
            Asm.bundle(m, f, Asm.constant(100 + f));
            Asm.bundle(m, f, Asm.giveBack(0));
        }
        for (int f = 0; f < 8; f++) {
            m.start(f, 0, 0);
            due.over("function " + f, m, 2);
            due.same("its own code", m.result(0), 100 + f);
        }
        due.illegalArgument("there is no -1", () -> m.bundle(-1));
        due.illegalArgument("there is no 8", () -> m.bundle(8));
        due.illegalState("nor will there be", () -> m.function(0, 1));
    }

    private static void arguments() {
        long[][] belts = {{}, {-5}, {-5, 6}, {-5, 6, 0}, {-5, 6, 0, 0}};
        for (int count = 0; count <= 4; count++) {
            BeltMachine m = Asm.program(count, 0, Asm.giveBack());
            m.start(0, -5, 6);
            due.belt(count + " arguments", m, belts[count]);
        }
        due.illegalArgument("-1", () -> Asm.machine(-1, 0));
        due.illegalArgument("5", () -> Asm.machine(5, 0));
    }

    private static void results() {
        int[][] lists = {{}, {2}, {2, 0}, {2, 0, 1}};
        long[] want = {0, 4, 5};
        for (int count = 0; count <= 3; count++) {
            BeltMachine m = Asm.program(3, count, Asm.giveBack(lists[count]));
            m.start(0, 4, 5);
            due.over(count + " results", m, 1);
            for (int i = 0; i < count; i++) {
                due.same("result " + i, m.result(i), want[i]);
            }
        }
        due.illegalArgument("-1", () -> Asm.machine(0, -1));
        due.illegalArgument("4", () -> Asm.machine(0, 4));
    }

    private static void bundles() {
        BeltMachine m = new BeltMachine();
        for (int f = 0; f < 8; f++) {
            m.function(0, 0);
            Asm.bundle(m, f, Asm.jump(23));
            for (int bundle = 1; bundle < 24; bundle++) {
                due.same("number in function " + f, m.bundle(f), bundle);
            }
            m.operation(f, 14, 0, 0, 0);
            int of = f;
            due.illegalState("the 25th", () -> m.bundle(of));
        }
        m.start(7, 0, 0);
        m.run(1);
        due.same("bundle 23 is there", m.state(2), 23);
        due.over("by bundle 23", m, 2);
    }

    private static void operations() {
        BeltMachine none = Asm.program(1, 0);
        Asm.go(none, 9, 0, 1);
        due.belt("a bundle of none", none, 9);
        due.same("it is a cycle", none.state(2), 1);
        BeltMachine four = Asm.program(1, 0);
        for (int i = 1; i <= 4; i++) {
            due.same("operations", four.operation(0, 0, 10 * i, 0, 0), i);
        }
        due.illegalState("the fifth", () -> four.operation(0, 0, 50, 0, 0));
        Asm.go(four, 9, 0, 1);
        due.belt("all four", four, 40, 30, 20, 10, 9);
    }

    private static void cells() {
        BeltMachine m = Asm.program(2, 0, Asm.store(0, 1));
        for (int cell = 0; cell < 16; cell++) {
            Asm.go(m, cell, 100 + cell, 1);
        }
        for (int cell = 0; cell < 16; cell++) {
            due.same("cell " + cell, m.cell(cell), 100 + cell);
        }
        m.force(0, 16, 5);
        due.trap("cell 16", m, 3, 1);
        due.outOfBounds("cell 16", () -> m.cell(16));
        due.isTrue("cell 16", !m.setCell(16, 5));
        due.isTrue("cell 15", m.setCell(15, 5));
    }

    private static void scratchCells() {
        BeltMachine m = Asm.fullBelt(0);
        Asm.bundle(m, 0, Asm.spill(0, 0), Asm.spill(1, 1), Asm.spill(2, 2), Asm.spill(3, 3));
        Asm.bundle(m, 0, Asm.spill(4, 4), Asm.spill(5, 5), Asm.spill(6, 6), Asm.spill(7, 7));
        Asm.bundle(m, 0, Asm.call(0));
        Asm.go(m, 0, 0, 4);
        for (int cell = 0; cell < 8; cell++) {
            due.same("cell " + cell, m.scratch(cell), 8 - cell);
        }
        due.noElement("cell 8", () -> m.scratch(8));
        m.run(1);
        for (int cell = 0; cell < 8; cell++) {
            int of = cell;
            due.noElement("cell " + cell + " of another frame", () -> m.scratch(of));
        }
    }

    /** A value comes by every place where values are held. */
    private static void longs() {
        long[] values = {Long.MIN_VALUE, Long.MAX_VALUE, 1L << 32, -1L << 31, 0x123456789ABCDEFL};
        for (long value : values) {
            BeltMachine m = Asm.program(2, 3, Asm.spill(1, 0), Asm.store(0, 1), Asm.load(0));
            Asm.bundle(m, 0, Asm.fill(0));
            Asm.bundle(m, 0, Asm.giveBack(0, 1, 3));
            m.start(0, 6, value);
            due.over("a value of 64 bits", m, 3);
            for (int i = 0; i < 3; i++) {
                due.same("result " + i, m.result(i), value);
            }
            due.same("the cell", m.cell(6), value);
        }
    }

    private static void wrapAround() {
        BeltMachine m = Asm.program(2, 3, Asm.multiply(0, 1));
        Asm.bundle(m, 0, Asm.add(0, 1), Asm.subtract(1, 0));
        Asm.pause(m, 0, 1);
        Asm.bundle(m, 0, Asm.giveBack(0, 1, 2));
        m.start(0, Long.MAX_VALUE, Long.MIN_VALUE + 2);
        due.over("a run", m, 4);
        due.same("MULTIPLY", m.result(0), Long.MAX_VALUE * (Long.MIN_VALUE + 2));
        due.same("SUBTRACT", m.result(1), 3);
        due.same("ADD", m.result(2), 1);
        m.start(0, Long.MAX_VALUE, 2);
        due.over("a run", m, 4);
        due.same("MULTIPLY", m.result(0), -2);
        due.same("SUBTRACT", m.result(1), 3 - Long.MAX_VALUE - 1);
        due.same("ADD", m.result(2), Long.MIN_VALUE + 1);
        m.start(0, Long.MAX_VALUE, Long.MIN_VALUE);
        due.over("a run", m, 4);
        due.same("MULTIPLY", m.result(0), Long.MIN_VALUE);
        due.same("SUBTRACT", m.result(1), 1);
        due.same("ADD", m.result(2), -1);
    }

    private static void positions() {
        BeltMachine m = Asm.fullBelt(0);
        Asm.go(m, 0, 0, 2);
        due.belt("eight", m, 8, 7, 6, 5, 4, 3, 2, 1);
        due.noElement("position 8", () -> m.belt(8));
        m.bundle(0);
        due.same("position 7 may be named", m.operation(0, 7, 7, 0, 0), 1);
        due.illegalArgument("position 8 may not", () -> m.operation(0, 7, 8, 0, 0));
    }

    private static void empty() {
        BeltMachine m = Asm.machine(0, 0);
        for (int i = 1; i <= 8; i++) {
            Asm.bundle(m, 0, Asm.constant(i));
        }
        Asm.bundle(m, 0, Asm.jump(9, 7, 0));
        m.force(0, 0, 0);
        for (int filled = 0; filled <= 8; filled++) {
            for (int i = 0; i < 8; i++) {
                int position = i;
                if (i < filled) {
                    due.same("position " + i + " of " + filled, m.belt(i), filled - i);
                } else {
                    due.noElement("position " + i + " of " + filled, () -> m.belt(position));
                }
            }
            m.run(1);
        }
        due.belt("the others are EMPTY again", m, 1, 8);
        due.noElement("the last one too", () -> m.belt(7));
    }

    private static void drop() {
        BeltMachine m = Asm.program(2, 0, Asm.constant(9));
        Asm.bundle(m, 0, Asm.constant(-9));
        Asm.go(m, 4, 5, 1);
        due.belt("one", m, 9, 4, 5);
        m.run(1);
        due.belt("one more", m, -9, 9, 4, 5);
    }

    private static void gone() {
        BeltMachine m = Asm.fullBelt(1);
        Asm.bundle(m, 0, Asm.constant(9));
        Asm.bundle(m, 0, Asm.constant(10), Asm.constant(11), Asm.constant(12));
        Asm.bundle(m, 0, Asm.giveBack(7));
        Asm.go(m, 0, 0, 3);
        due.belt("one", m, 9, 8, 7, 6, 5, 4, 3, 2);
        m.run(1);
        due.belt("three more", m, 12, 11, 10, 9, 8, 7, 6, 5);
        due.over("the last one", m, 5);
        due.same("what is at 7", m.result(0), 5);
    }

    /** A JUMP with this list keeps these values of a full belt. */
    private static void list(int list, long... values) {
        BeltMachine m = Asm.fullBelt(0);
        m.bundle(0);
        m.operation(0, 12, 0, 3, list);
        Asm.go(m, 0, 0, 3);
        due.belt("list " + Integer.toHexString(list), m, values);
    }

    private static void listOfPositions() {
        for (int position = 0; position < 8; position++) {
            list(position + 1, 8 - position);
        }
        list(0x21, 8, 7);
        list(0x12, 7, 8);
        list(0x813, 6, 8, 1);
        list(0x5555, 4, 4, 4, 4);
    }

    private static void listUpToZero() {
        list(0);
        list(0x10);
        list(0x80000000);
        list(0x301, 8);
        list(0xFFFFFF02, 7);
        list(0x90654321, 8, 7, 6, 5, 4, 3);
        list(0x07654321, 8, 7, 6, 5, 4, 3, 2);
    }

    private static void listOfEight() {
        list(0x12345678, 1, 2, 3, 4, 5, 6, 7, 8);
        list(0x87654321, 8, 7, 6, 5, 4, 3, 2, 1);
        list(0x11111111, 8, 8, 8, 8, 8, 8, 8, 8);
        list(0x88888888, 1, 1, 1, 1, 1, 1, 1, 1);
    }
}
