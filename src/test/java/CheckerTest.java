/** The term THE CHECKER: the states of the bundles, the faults, and the order of looks. */
public final class CheckerTest {
    private static final Due due = new Due();

    public static void main(String[] args) {
        due.under("Terms, THE CHECKER");
        due.sentence("THE CHECKER looks at the code of a function", CheckerTest::codeAlone);
        due.sentence("a STATE of a bundle is how many positions are not EMPTY",
                CheckerTest::filledPositions);
        due.sentence("which results are in flight (for how many more cycles each, in the order of "
                + "issue)", CheckerTest::flights);
        due.sentence("and which scratch cells are spilled for sure.", CheckerTest::spilledCells);
        due.sentence("Bundle 0 has as many as there are arguments, and nothing else.",
                CheckerTest::bundleZero);
        due.sentence("Always the least bundle that is to be looked at is looked at (first bundle 0)",
                CheckerTest::leastFirst);
        due.sentence("the FAULTS: 1 a position that is EMPTY", CheckerTest::emptyPosition);
        due.sentence("5 a FILL of a cell that is not spilled for sure", CheckerTest::notForSure);
        due.sentence("6 a bundle that there is not (told of the bundle that would go on there",
                CheckerTest::noSuchBundle);
        due.sentence("6 of bundle 0, if there is none at all)", CheckerTest::noBundles);
        due.sentence("7 a RETURN with something in flight", CheckerTest::returnInFlight);
        due.sentence("8 a bundle that gets a state with another number of positions",
                CheckerTest::otherPositions);
        due.sentence("or other flights than it has", CheckerTest::otherFlights);
        due.sentence("(told of that one).", CheckerTest::toldOfThatOne);
        due.sentence("In the order of operations", CheckerTest::orderOfOperations);
        due.sentence("of one operation as above", CheckerTest::orderInOneOperation);
        due.sentence("then the next bundles", CheckerTest::operationsAheadOfNext);
        due.sentence("the one behind this (not of JUMP, RETURN)", CheckerTest::behind);
        due.sentence("then that of a BRANCH or JUMP, get their states", CheckerTest::thenThatOfB);
        due.sentence("one that has none has this, and is to be looked at", CheckerTest::hasThis);
        due.sentence("one that has some keeps the scratch cells that both have",
                CheckerTest::cellsOfBoth);
        due.sentence("and is to be looked at if that is less.", CheckerTest::lookedAtAgain);
        due.sentence("and is to be looked at if that is less.", CheckerTest::lookedAtFiveTimes);
        due.sentence("A CALL drops as many as the function has results.", CheckerTest::calls);
        due.sentence("(Bundles that nothing leads to have no state.)", CheckerTest::unreached);
        due.end();
    }

    private static void codeAlone() {
        BeltMachine values = Asm.program(1, 0, Asm.constant(0), Asm.constant(99));
        Asm.bundle(values, 0, Asm.divide(0, 1), Asm.load(0), Asm.store(0, 1), Asm.branch(1, 2));
        Asm.pause(values, 0, 3);
        Asm.bundle(values, 0, Asm.giveBack());
        due.fault("a BRANCH on 0 may go", values, 8, 2);
        BeltMachine cells = Asm.program(1, 0, Asm.constant(0), Asm.constant(99));
        Asm.bundle(cells, 0, Asm.divide(0, 1), Asm.load(0), Asm.store(0, 1));
        Asm.pause(cells, 0, 3);
        Asm.bundle(cells, 0, Asm.giveBack());
        due.sound("values don't count", cells);
        BeltMachine endless = Asm.program(0, 0, Asm.call(0));
        Asm.bundle(endless, 0, Asm.giveBack());
        due.sound("frames don't count", endless);
        BeltMachine callee = Asm.pair(0, 0, 0, 0);
        Asm.bundle(callee, 0, Asm.call(1));
        Asm.bundle(callee, 0, Asm.giveBack());
        due.sound("what is called is not looked at", callee);
        BeltMachine run = Asm.program(1, 0, Asm.spill(0, 0), Asm.constant(1));
        Asm.bundle(run, 0, Asm.fill(1));
        Asm.go(run, 3, 4, 1);
        due.fault("nor is a run", run, 5, 1);
        due.state("nor is a run", run, 0, 1, 0, 0);
    }

    private static void filledPositions() {
        BeltMachine m = Asm.machine(3, 0);
        Asm.bundle(m, 0, Asm.constant(1), Asm.add(0, 1), Asm.store(0, 0), Asm.spill(0, 0));
        Asm.bundle(m, 0, Asm.constant(1), Asm.less(0, 1));
        Asm.bundle(m, 0, Asm.constant(1), Asm.constant(1));
        Asm.bundle(m, 0, Asm.constant(1), Asm.jump(4, 7, 0));
        Asm.bundle(m, 0, Asm.constant(1), Asm.jump(5, 0, 0, 0, 0, 0, 0, 0, 0));
        Asm.bundle(m, 0, Asm.jump(6));
        Asm.bundle(m, 0, Asm.giveBack());
        due.sound("a program", m);
        int[] filled = {3, 5, 7, 8, 3, 8, 0};
        for (int i = 0; i < filled.length; i++) {
            due.same("positions of " + i, m.checked(8 + i), filled[i]);
        }
    }

    private static void flights() {
        int[][] operations = Asm.withTwoArguments();
        for (int code = 0; code < operations.length; code++) {
            int latency = Asm.LATENCIES[code];
            BeltMachine m = Asm.program(2, 0, operations[code]);
            Asm.pause(m, 0, 4);
            Asm.bundle(m, 0, Asm.giveBack());
            due.sound("code " + code, m);
            for (int cycle = 1; cycle <= 5; cycle++) {
                int landed = latency > 0 && cycle >= latency ? 1 : 0;
                int flying = latency > cycle ? 1 : 0;
                due.same("flights of code " + code, m.checked(32 + cycle), flying);
                due.same("positions of code " + code, m.checked(8 + cycle), 2 + landed);
            }
        }
        BeltMachine fill = Asm.program(1, 0, Asm.spill(0, 0), Asm.fill(0));
        Asm.bundle(fill, 0, Asm.giveBack());
        due.sound("FILL", fill);
        due.state("FILL", fill, 1, 2, 0, 1);
        manyFlights();
    }

    /** Sixteen are the most that can be in flight, and a belt has no more than 8 positions. */
    private static void manyFlights() {
        BeltMachine m = Asm.machine(1, 0);
        int[] slow = Asm.divide(0, 0);
        for (int i = 0; i < 6; i++) {
            Asm.bundle(m, 0, slow, slow, slow, slow);
        }
        Asm.bundle(m, 0, slow, slow, slow, Asm.jump(7));
        Asm.pause(m, 0, 3);
        Asm.bundle(m, 0, Asm.giveBack());
        due.sound("DIVIDEs", m);
        int[] filled = {1, 1, 1, 1, 5, 8, 8, 4, 8, 8, 8};
        int[] flights = {0, 4, 8, 12, 12, 12, 12, 11, 7, 3, 0};
        for (int i = 0; i < filled.length; i++) {
            due.state("DIVIDEs", m, i, filled[i], flights[i], 0);
        }
    }

    private static void spilledCells() {
        BeltMachine m = Asm.program(1, 0, Asm.spill(0, 0), Asm.spill(0, 7), Asm.spill(0, 0));
        Asm.bundle(m, 0, Asm.spill(0, 3), Asm.fill(3));
        Asm.bundle(m, 0, Asm.fill(0), Asm.fill(7), Asm.jump(3));
        Asm.bundle(m, 0, Asm.fill(3), Asm.call(0, 0));
        Asm.bundle(m, 0, Asm.giveBack());
        due.sound("a program", m);
        int[] spilled = {0, 129, 137, 137, 137};
        for (int i = 0; i < spilled.length; i++) {
            due.same("scratch cells of " + i, m.checked(56 + i), spilled[i]);
        }
    }

    private static void bundleZero() {
        for (int arguments = 0; arguments <= 4; arguments++) {
            BeltMachine m = Asm.program(arguments, 0, Asm.giveBack());
            due.sound(arguments + " arguments", m);
            due.state(arguments + " arguments", m, 0, arguments, 0, 0);
        }
        BeltMachine back = Asm.program(1, 0, Asm.spill(0, 2));
        Asm.bundle(back, 0, Asm.spill(0, 3), Asm.jump(0, 0));
        due.sound("one that is led to again", back);
        due.state("one that is led to again", back, 0, 1, 0, 0);
        due.looks("one that is led to again", back, 2, 2);
        BeltMachine other = Asm.pair(1, 0, 3, 2);
        Asm.bundle(other, 1, Asm.giveBack(0, 1));
        due.same("another function", other.check(1), 0);
        due.state("another function", other, 0, 3, 0, 0);
    }

    private static void leastFirst() {
        BeltMachine m = Asm.program(1, 0, Asm.jump(3, 0));
        Asm.bundle(m, 0, Asm.fill(0));
        Asm.bundle(m, 0, Asm.giveBack());
        Asm.bundle(m, 0, Asm.branch(0, 1, 0));
        Asm.bundle(m, 0, Asm.add(7, 7));
        due.fault("1 is looked at, then 4 would be", m, 5, 1);
        due.looks("0, 3, 1", m, 4, 3);
        due.noState("behind the fault", m, 2);
        due.state("not looked at", m, 4, 1, 0, 0);
        BeltMachine zero = Asm.program(1, 0, Asm.branch(0, 2, 0));
        Asm.bundle(zero, 0, Asm.spill(0, 1), Asm.jump(3, 0));
        Asm.bundle(zero, 0, Asm.fill(1));
        Asm.bundle(zero, 0, Asm.fill(2));
        due.fault("2 ahead of 3", zero, 5, 2);
        due.looks("0, 1, 2", zero, 4, 3);
        BeltMachine first = Asm.program(1, 0, Asm.fill(0), Asm.jump(1));
        Asm.bundle(first, 0, Asm.add(7, 7));
        due.fault("first bundle 0", first, 5, 0);
        due.looks("first bundle 0", first, 1, 1);
    }

    private static void emptyPosition() {
        for (int[] operation : Asm.namingPosition2()) {
            BeltMachine m = Asm.program(2, 2, operation);
            Asm.bundle(m, 0, Asm.giveBack(0, 1));
            due.fault("code " + operation[0], m, 1, 0);
            due.looks("code " + operation[0], m, 1, 1);
            BeltMachine filled = Asm.program(2, 2, Asm.constant(1));
            Asm.bundle(filled, 0, operation);
            due.isTrue("where it is not EMPTY, code " + operation[0], filled.check(0) != 1);
        }
        for (int arguments = 0; arguments <= 4; arguments++) {
            for (int position = 0; position < 8; position++) {
                BeltMachine m = Asm.program(arguments, 1, Asm.giveBack(position));
                due.same("position " + position + " of " + arguments, m.check(0),
                        position < arguments ? 0 : 1);
            }
        }
        BeltMachine late = Asm.program(1, 0, Asm.constant(1), Asm.add(0, 1));
        due.fault("a result is not there in its own cycle", late, 1, 0);
        BeltMachine slow = Asm.program(1, 0, Asm.load(0));
        Asm.bundle(slow, 0, Asm.spill(1, 0));
        due.fault("nor is one that is in flight", slow, 1, 1);
        BeltMachine full = Asm.fullBelt(1);
        Asm.bundle(full, 0, Asm.giveBack(7));
        due.sound("position 7 of a full belt", full);
        BeltMachine none = Asm.program(0, 0, Asm.constant(9), Asm.constant(-9));
        Asm.bundle(none, 0, Asm.giveBack());
        due.sound("a CONSTANT names none", none);
    }

    private static void notForSure() {
        for (int cell = 0; cell < 8; cell++) {
            BeltMachine none = Asm.program(1, 0, Asm.fill(cell));
            due.fault("nothing spilled", none, 5, 0);
            BeltMachine others = Asm.program(1, 0, Asm.spill(0, cell + 1 & 7),
                    Asm.spill(0, cell + 7 & 7));
            Asm.bundle(others, 0, Asm.fill(cell));
            due.fault("others spilled", others, 5, 1);
            BeltMachine ahead = Asm.program(1, 0, Asm.spill(0, cell), Asm.fill(cell));
            Asm.bundle(ahead, 0, Asm.giveBack());
            due.sound("spilled ahead of it in the bundle", ahead);
        }
        BeltMachine behind = Asm.program(1, 0, Asm.fill(7), Asm.spill(0, 7));
        due.fault("spilled behind it in the bundle", behind, 5, 0);
        BeltMachine oneWay = Asm.program(1, 0, Asm.branch(0, 2, 0));
        Asm.bundle(oneWay, 0, Asm.spill(0, 4));
        Asm.bundle(oneWay, 0, Asm.fill(4));
        Asm.bundle(oneWay, 0, Asm.giveBack());
        due.fault("spilled on one way of two", oneWay, 5, 2);
        BeltMachine callee = Asm.pair(1, 0, 1, 0);
        Asm.bundle(callee, 1, Asm.spill(0, 0));
        Asm.bundle(callee, 0, Asm.call(1, 0));
        Asm.bundle(callee, 0, Asm.fill(0));
        due.fault("spilled by a callee", callee, 5, 1);
    }

    private static void noSuchBundle() {
        BeltMachine through = Asm.machine(1, 0);
        Asm.pause(through, 0, 24);
        due.fault("behind the 24th", through, 6, 23);
        due.looks("behind the 24th", through, 24, 24);
        BeltMachine jump = Asm.program(1, 0);
        Asm.bundle(jump, 0, Asm.jump(3));
        Asm.bundle(jump, 0, Asm.giveBack());
        due.fault("a JUMP", jump, 6, 1);
        due.looks("a JUMP", jump, 2, 2);
        BeltMachine far = Asm.program(1, 0, Asm.jump(23));
        due.fault("a JUMP to 23", far, 6, 0);
        BeltMachine branch = Asm.program(1, 0, Asm.branch(0, 2));
        Asm.bundle(branch, 0, Asm.giveBack());
        due.fault("a BRANCH", branch, 6, 0);
        BeltMachine last = Asm.program(1, 0, Asm.branch(0, 0, 0));
        due.fault("behind a BRANCH", last, 6, 0);
        BeltMachine call = Asm.program(1, 0);
        Asm.bundle(call, 0, Asm.call(0, 0));
        due.fault("behind a CALL", call, 6, 1);
        Asm.bundle(call, 0, Asm.giveBack());
        due.sound("there is one now", call);
    }

    private static void noBundles() {
        for (int arguments = 0; arguments <= 4; arguments++) {
            BeltMachine m = Asm.machine(arguments, 0);
            due.fault("no bundles", m, 6, 0);
            due.looks("no bundles", m, 0, 0);
            due.noState("no bundles", m, 0);
        }
    }

    private static void returnInFlight() {
        int[][] operations = {Asm.constant(1), Asm.load(0), Asm.multiply(0, 0), Asm.divide(0, 0)};
        for (int i = 0; i < operations.length; i++) {
            for (int cycles = 0; cycles <= 4; cycles++) {
                BeltMachine m = Asm.program(1, 1, operations[i]);
                Asm.pause(m, 0, cycles);
                Asm.bundle(m, 0, Asm.giveBack(0));
                due.fault(cycles + " behind code " + operations[i][0], m,
                        cycles < i ? 7 : 0, cycles < i ? cycles + 1 : -1);
            }
        }
        BeltMachine own = Asm.program(1, 1, Asm.constant(1), Asm.giveBack(0));
        due.fault("a result of the bundle itself", own, 7, 0);
        BeltMachine none = Asm.program(1, 1, Asm.store(0, 0), Asm.spill(0, 0), Asm.giveBack(0));
        due.sound("STORE and SPILL have no result", none);
        BeltMachine jump = Asm.program(1, 0, Asm.load(0), Asm.jump(2));
        Asm.pause(jump, 0, 1);
        Asm.bundle(jump, 0, Asm.giveBack());
        due.fault("flights go on behind a JUMP", jump, 7, 2);
    }

    private static void otherPositions() {
        for (int kept = 0; kept <= 8; kept++) {
            BeltMachine m = Asm.program(3, 0, Asm.branch(0, 2, new int[kept]));
            Asm.pause(m, 0, 1);
            Asm.bundle(m, 0, Asm.giveBack());
            due.fault("3 and " + kept, m, kept == 3 ? 0 : 8, kept == 3 ? -1 : 2);
            due.same("it keeps what it has", m.checked(10), kept);
        }
        BeltMachine grows = Asm.program(0, 0, Asm.constant(1), Asm.jump(0));
        due.fault("a loop whose belt grows", grows, 8, 0);
        BeltMachine full = Asm.fullBelt(0);
        Asm.bundle(full, 0, Asm.constant(1), Asm.branch(0, 2, 0, 1, 2, 3, 4, 5, 6, 7));
        Asm.bundle(full, 0, Asm.giveBack());
        due.sound("a full belt does not grow", full);
    }

    private static void otherFlights() {
        BeltMachine more = Asm.program(1, 0, Asm.branch(0, 2, 0));
        Asm.bundle(more, 0, Asm.load(0));
        Asm.bundle(more, 0, Asm.jump(2, 0));
        due.fault("one more", more, 8, 2);
        due.same("it keeps what it has", more.checked(34), 0);
        BeltMachine later = Asm.program(1, 0, Asm.divide(0, 0));
        Asm.bundle(later, 0, Asm.jump(1, 0));
        due.fault("the same one a cycle later", later, 8, 1);
        due.fault("in another order", inOrder(true), 8, 3);
        due.fault("in the same order", inOrder(false), 0, -1);
        BeltMachine alike = Asm.program(1, 0, Asm.multiply(0, 0), Asm.branch(0, 3, 0));
        Asm.pause(alike, 0, 1);
        Asm.bundle(alike, 0, Asm.multiply(0, 0), Asm.jump(3));
        Asm.pause(alike, 0, 2);
        Asm.bundle(alike, 0, Asm.giveBack());
        due.sound("as many, as long each, from two", alike);
        due.state("as many, as long each, from two", alike, 3, 1, 1, 0);
    }

    /** Two ways to bundle 3, with a DIVIDE and a MULTIPLY in flight on each. */
    private static BeltMachine inOrder(boolean turned) {
        int[] divide = Asm.divide(0, 0);
        int[] multiply = Asm.multiply(0, 0);
        BeltMachine m = Asm.program(1, 0, Asm.branch(0, 2, 0));
        Asm.bundle(m, 0, divide, multiply, Asm.jump(3, 0));
        Asm.bundle(m, 0, turned ? multiply : divide, turned ? divide : multiply);
        Asm.pause(m, 0, 3);
        Asm.bundle(m, 0, Asm.giveBack());
        return m;
    }

    private static void toldOfThatOne() {
        BeltMachine ahead = Asm.program(1, 0);
        Asm.pause(ahead, 0, 2);
        Asm.bundle(ahead, 0, Asm.jump(1));
        due.fault("a bundle ahead of it", ahead, 8, 1);
        due.looks("it is not looked at again", ahead, 4, 4);
        BeltMachine behind = Asm.program(1, 0, Asm.branch(0, 3));
        Asm.pause(behind, 0, 2);
        Asm.bundle(behind, 0, Asm.giveBack());
        due.fault("a bundle behind it", behind, 8, 3);
        due.looks("it is not looked at", behind, 4, 3);
        BeltMachine itself = Asm.program(1, 0);
        Asm.bundle(itself, 0, Asm.jump(1));
        due.fault("itself", itself, 8, 1);
        BeltMachine next = Asm.program(1, 0, Asm.branch(0, 1));
        Asm.bundle(next, 0, Asm.giveBack());
        due.fault("the one behind, where the BRANCH goes too", next, 8, 1);
        due.state("it has that of the one ahead", next, 1, 1, 0, 0);
    }

    private static void orderOfOperations() {
        int[] fill = Asm.fill(0);
        int[] add = Asm.add(5, 5);
        due.fault("FILL, ADD", Asm.program(1, 0, fill, add), 5, 0);
        due.fault("ADD, FILL", Asm.program(1, 0, add, fill), 1, 0);
        due.fault("FILL, RETURN", Asm.program(1, 1, fill, Asm.giveBack(5)), 5, 0);
        due.fault("the fourth", Asm.program(1, 0, Asm.constant(1), Asm.spill(0, 0), fill, add),
                1, 0);
        due.fault("the third", Asm.program(1, 0, Asm.constant(1), Asm.spill(0, 1), fill, add),
                5, 0);
        due.fault("RETURN", Asm.program(1, 0, Asm.constant(1), Asm.giveBack()), 7, 0);
    }

    private static void orderInOneOperation() {
        due.fault("RETURN: 1 ahead of 7", Asm.program(1, 1, Asm.constant(1), Asm.giveBack(1)), 1, 0);
        due.fault("RETURN: the last of the list",
                Asm.program(1, 3, Asm.constant(1), Asm.giveBack(0, 0, 1)), 1, 0);
        due.fault("RETURN: 7", Asm.program(1, 1, Asm.constant(1), Asm.giveBack(0)), 7, 0);
    }

    private static void operationsAheadOfNext() {
        due.fault("1 ahead of 6", Asm.program(1, 0, Asm.branch(3, 9)), 1, 0);
        due.fault("1 ahead of 6", Asm.program(1, 0, Asm.jump(9, 3)), 1, 0);
        due.fault("5 ahead of 6", Asm.program(1, 0, Asm.fill(1)), 5, 0);
        due.fault("5 ahead of 8", Asm.program(1, 0, Asm.fill(1), Asm.jump(0)), 5, 0);
        due.fault("1 ahead of 8", Asm.program(1, 0, Asm.jump(0, 1, 1)), 1, 0);
        due.fault("1 ahead of 6", Asm.program(1, 0, Asm.call(0, 1)), 1, 0);
    }

    private static void behind() {
        int[][] leading = {Asm.constant(1), Asm.branch(0, 2, 0), Asm.call(0, 0)};
        for (int[] operation : leading) {
            BeltMachine m = Asm.program(1, 0, operation);
            Asm.bundle(m, 0, Asm.jump(2, 0));
            Asm.bundle(m, 0, Asm.giveBack());
            due.sound("code " + operation[0], m);
            due.looks("code " + operation[0], m, 3, 3);
        }
        BeltMachine empty = Asm.program(1, 0);
        Asm.bundle(empty, 0, Asm.giveBack());
        due.sound("without operations", empty);
        due.looks("without operations", empty, 2, 2);
        BeltMachine jump = Asm.program(1, 0, Asm.jump(2));
        Asm.bundle(jump, 0, Asm.fill(0));
        Asm.bundle(jump, 0, Asm.giveBack());
        due.sound("not of a JUMP", jump);
        due.noState("not of a JUMP", jump, 1);
        BeltMachine back = Asm.program(1, 0, Asm.giveBack());
        Asm.bundle(back, 0, Asm.fill(0));
        due.sound("not of a RETURN", back);
        due.noState("not of a RETURN", back, 1);
        due.sound("a RETURN at the end", Asm.program(1, 0, Asm.giveBack()));
        due.sound("a JUMP at the end", Asm.program(1, 0, Asm.jump(0, 0)));
    }

    private static void thenThatOfB() {
        BeltMachine m = Asm.program(2, 0, Asm.constant(1), Asm.multiply(0, 1), Asm.spill(0, 3),
                Asm.branch(0, 2, 0, 1, 0, 1, 1));
        Asm.bundle(m, 0, Asm.jump(3, 2));
        Asm.bundle(m, 0, Asm.jump(3, 5));
        Asm.pause(m, 0, 1);
        Asm.bundle(m, 0, Asm.giveBack());
        due.sound("a BRANCH and JUMPs", m);
        due.state("behind the BRANCH", m, 1, 3, 1, 8);
        due.state("where it goes", m, 2, 6, 1, 8);
        due.state("where both JUMP", m, 3, 1, 1, 8);
        due.state("behind that", m, 4, 2, 0, 8);
        BeltMachine eight = Asm.program(1, 0, Asm.branch(0, 2, 0));
        Asm.bundle(eight, 0, Asm.constant(1), Asm.branch(0, 20, 0));
        Asm.bundle(eight, 0, Asm.giveBack());
        due.fault("8 of the one behind ahead of 6", eight, 8, 2);
        BeltMachine six = Asm.program(1, 0);
        Asm.bundle(six, 0, Asm.constant(1), Asm.branch(0, 0, 0));
        due.fault("6 of the one behind ahead of 8", six, 6, 1);
        BeltMachine given = Asm.program(1, 0, Asm.branch(0, 2));
        Asm.bundle(given, 0, Asm.giveBack());
        due.fault("6 of the BRANCH", given, 6, 0);
        due.looks("the one behind has its state", given, 2, 1);
        BeltMachine bits = Asm.program(1, 0);
        bits.operation(0, 12, 0, 0, 0x99901);
        due.sound("a list ends at a 0", bits);
    }

    private static void hasThis() {
        BeltMachine m = Asm.program(3, 0, Asm.spill(2, 1), Asm.load(0), Asm.branch(0, 2, 0));
        Asm.bundle(m, 0, Asm.spill(3, 0));
        Asm.bundle(m, 0, Asm.giveBack());
        due.fault("looked at", m, 1, 1);
        due.looks("two looks, three states", m, 3, 2);
        due.state("the one behind", m, 1, 3, 1, 2);
        due.state("that of the BRANCH", m, 2, 1, 1, 2);
        BeltMachine both = Asm.program(1, 0, Asm.branch(0, 2, 0));
        Asm.pause(both, 0, 1);
        Asm.bundle(both, 0, Asm.giveBack());
        due.sound("led to twice", both);
        due.looks("looked at once", both, 3, 3);
        BeltMachine loop = Asm.program(1, 0, Asm.jump(0, 0));
        due.sound("a loop without end", loop);
        due.looks("a loop without end", loop, 1, 1);
    }

    private static void cellsOfBoth() {
        BeltMachine m = Asm.program(1, 0, Asm.spill(0, 1), Asm.spill(0, 2), Asm.branch(0, 2, 0));
        Asm.bundle(m, 0, Asm.spill(0, 3), Asm.spill(0, 5), Asm.jump(3, 0));
        Asm.bundle(m, 0, Asm.spill(0, 4), Asm.spill(0, 5));
        Asm.bundle(m, 0, Asm.fill(1), Asm.fill(2), Asm.fill(5));
        Asm.bundle(m, 0, Asm.giveBack());
        due.sound("two ways", m);
        due.state("two ways", m, 0, 1, 0, 0);
        due.state("two ways", m, 2, 1, 0, 6);
        due.state("two ways", m, 3, 1, 0, 38);
        due.state("two ways", m, 4, 4, 0, 38);
        due.looks("none was looked at twice", m, 5, 5);
        BeltMachine more = Asm.program(1, 0, Asm.branch(0, 2, 0));
        Asm.bundle(more, 0, Asm.jump(3, 0));
        Asm.bundle(more, 0, Asm.spill(0, 6), Asm.jump(3, 0));
        Asm.bundle(more, 0, Asm.giveBack());
        due.sound("more than it has", more);
        due.state("more than it has", more, 3, 1, 0, 0);
    }

    /** Bundle 3 leads to bundle 2 when that has been looked at with cell 5. */
    private static BeltMachine cellIsLost(int[]... second) {
        BeltMachine m = Asm.program(1, 0, Asm.branch(0, 3, 0));
        Asm.bundle(m, 0, Asm.spill(0, 5));
        Asm.bundle(m, 0, second);
        Asm.bundle(m, 0, Asm.jump(2, 0));
        Asm.bundle(m, 0, Asm.giveBack());
        return m;
    }

    private static void lookedAtAgain() {
        BeltMachine m = cellIsLost(Asm.jump(4, 0));
        due.sound("a cell is lost", m);
        due.looks("0, 1, 2, 3, 2, 4", m, 5, 6);
        due.state("a cell is lost", m, 2, 1, 0, 0);
        due.state("a cell is lost", m, 4, 1, 0, 0);
        BeltMachine fill = cellIsLost(Asm.fill(5), Asm.jump(4));
        due.fault("a cell that is filled", fill, 5, 2);
        due.looks("0, 1, 2, 3, 2", fill, 5, 5);
        due.state("what it had led to", fill, 4, 1, 0, 32);
        BeltMachine back = Asm.program(1, 0);
        Asm.bundle(back, 0, Asm.spill(0, 1), Asm.jump(1, 0));
        due.sound("not if it has the same", back);
        due.looks("not if it has the same", back, 2, 2);
        due.state("not if it has the same", back, 1, 1, 0, 0);
    }

    /** A chain of fourteen bundles that loses its four cells one by one. */
    private static void lookedAtFiveTimes() {
        BeltMachine m = Asm.program(1, 0, Asm.branch(0, 16, 0));
        Asm.bundle(m, 0, Asm.spill(0, 0), Asm.spill(0, 1), Asm.spill(0, 2), Asm.spill(0, 3));
        Asm.pause(m, 0, 13);
        Asm.bundle(m, 0, Asm.giveBack());
        for (int i = 0; i < 4; i++) {
            Asm.bundle(m, 0, i < 3 ? Asm.branch(0, 20 + i, 0) : Asm.jump(23, 0));
        }
        for (int i = 0; i < 4; i++) {
            Asm.bundle(m, 0, Asm.spill(0, i + 1 & 3), Asm.spill(0, i + 2 & 3),
                    Asm.spill(0, i + 3 & 3), Asm.jump(2, 0));
        }
        due.sound("cells are lost one by one", m);
        due.looks("cells are lost one by one", m, 24, 10 + 5 * 14);
        due.state("the chain's begin", m, 2, 1, 0, 0);
        due.state("the chain's end", m, 15, 1, 0, 0);
    }

    private static void calls() {
        for (int results = 0; results <= 3; results++) {
            BeltMachine m = Asm.pair(1, 0, 2, results);
            Asm.bundle(m, 0, Asm.multiply(0, 0), Asm.constant(1), Asm.spill(0, 4),
                    Asm.call(1, 0, 0));
            Asm.bundle(m, 0, Asm.call(1, 0, 1));
            Asm.bundle(m, 0, Asm.constant(1), Asm.call(1, 0, 1));
            Asm.bundle(m, 0, Asm.giveBack());
            due.sound(results + " results", m);
            due.state("a call", m, 1, 2 + results, 1, 16);
            due.state("a call", m, 2, 2 + 2 * results, 1, 16);
            due.state("a call", m, 3, Math.min(8, 4 + 3 * results), 0, 16);
        }
    }

    private static void unreached() {
        BeltMachine m = Asm.program(1, 1, Asm.giveBack(0));
        Asm.bundle(m, 0, Asm.add(7, 7));
        Asm.bundle(m, 0, Asm.fill(7), Asm.jump(23));
        Asm.bundle(m, 0, Asm.constant(1), Asm.giveBack(0));
        Asm.bundle(m, 0, Asm.jump(0));
        due.sound("their faults are none", m);
        due.looks("one state", m, 1, 1);
        for (int bundle = 1; bundle < 24; bundle++) {
            due.noState("nothing leads there", m, bundle);
        }
        BeltMachine early = Asm.program(1, 0, Asm.branch(0, 3, 0));
        Asm.bundle(early, 0, Asm.fill(0));
        Asm.pause(early, 0, 1);
        Asm.bundle(early, 0, Asm.giveBack());
        due.fault("a fault ahead of them", early, 5, 1);
        due.noState("a fault ahead of them", early, 2);
    }
}
