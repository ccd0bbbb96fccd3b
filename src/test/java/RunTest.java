/** Promises 7 to 10: starting a run, its cycles and traps, and what state() tells of it. */
public final class RunTest {
    private static final Due due = new Due();

    public static void main(String[] args) {
        startArguments();
        startSoundness();
        startSoundnessOfEachCallee();
        startAfterCalls();
        startAnew();
        forceInputs();
        runInputs();
        runCycles();
        arithmetic();
        latencies();
        dropOrder();
        beltAsAtTheBeginning();
        worksAtOnce();
        emptyPositionTraps();
        emptyAheadOfOthers();
        divisionTrap();
        memoryTraps();
        fillTrap();
        missingBundleTraps();
        returnTrap();
        frameTrap();
        branches();
        branchKeepsFlights();
        calls();
        callerWaits();
        resultOrder();
        framesAreNew();
        codeGrowsInARun();
        stateOfARun();
        due.end();
    }

    /** Runs to the end, which must be a RETURN, and answers result 0. */
    private static long outcome(BeltMachine m, long first, long second) {
        m.force(0, first, second);
        due.same("9: over by a RETURN", m.run(10000), 1);
        return m.result(0);
    }

    private static void trap(String what, BeltMachine m, int cycles, int trap) {
        due.same(what + ": run", m.run(10000), 2);
        due.same(what + ": trap", m.state(0), trap);
        due.same(what + ": cycles", m.state(5), cycles);
        due.same(what + ": run again", m.run(1), 2);
        due.same(what + ": no more cycles", m.state(5), cycles);
    }

    private static void belt(String what, BeltMachine m, long... values) {
        for (int i = 0; i < values.length; i++) {
            due.same(what + ": position " + i, m.belt(i), values[i]);
        }
        due.noElement(what + ": position " + values.length, () -> m.belt(values.length));
    }

    private static void startArguments() {
        long[][] belts = {{}, {-5}, {-5, 1L << 40}, {-5, 1L << 40, 0}, {-5, 1L << 40, 0, 0}};
        for (int arguments = 0; arguments <= 4; arguments++) {
            BeltMachine m = Asm.machine(arguments, 0);
            Asm.bundle(m, 0, Asm.giveBack());
            m.start(0, -5, 1L << 40);
            belt("7: arguments", m, belts[arguments]);
            m.force(0, -5, 1L << 40);
            belt("8: arguments", m, belts[arguments]);
        }
    }

    private static void startSoundness() {
        BeltMachine m = Asm.machine(0, 0);
        m.function(0, 0);
        m.function(0, 0);
        m.function(0, 0);
        due.illegalState("7: no bundles", () -> m.start(0, 0, 0));
        Asm.bundle(m, 0, Asm.call(1));
        Asm.bundle(m, 0, Asm.giveBack());
        due.illegalState("7: called function not sound", () -> m.start(0, 0, 0));
        Asm.bundle(m, 1, Asm.call(2));
        Asm.bundle(m, 1, Asm.giveBack());
        due.same("5: function 1 by itself", m.check(1), 0);
        due.illegalState("7: called by one that is called", () -> m.start(0, 0, 0));
        due.same("no run yet", m.state(5), -1);
        Asm.bundle(m, 2, Asm.call(0));
        Asm.bundle(m, 2, Asm.giveBack());
        m.start(0, 0, 0);
        due.same("7: functions in a ring", m.state(1), 0);
        m.start(2, 0, 0);
        due.same("7: from another of the ring", m.state(1), 2);
        due.illegalState("7: one that nobody calls", () -> m.start(3, 0, 0));
        due.same("7: the run that was", m.state(1), 2);
        due.illegalArgument("7: function -1", () -> m.start(-1, 0, 0));
        due.illegalArgument("7: function 4", () -> m.start(4, 0, 0));
        due.illegalArgument("7: function 8", () -> m.start(8, 0, 0));
        due.same("7: the run that was", m.state(1), 2);
    }

    private static void startSoundnessOfEachCallee() {
        for (int unsound = 1; unsound <= 3; unsound++) {
            BeltMachine m = Asm.machine(0, 0);
            for (int f = 1; f <= 3; f++) {
                m.function(0, 0);
                Asm.bundle(m, f, f == unsound ? Asm.fill(0) : Asm.giveBack());
                Asm.bundle(m, 0, Asm.call(f));
            }
            Asm.bundle(m, 0, Asm.giveBack());
            due.same("5: the caller by itself", m.check(0), 0);
            due.illegalState("7: callee " + unsound, () -> m.start(0, 0, 0));
        }
        BeltMachine chain = Asm.machine(0, 0);
        for (int f = 1; f < 8; f++) {
            chain.function(0, 0);
        }
        int[] order = {0, 7, 3, 6, 1, 5, 2, 4};
        for (int i = 0; i < 7; i++) {
            Asm.bundle(chain, order[i], Asm.call(order[i + 1]));
            Asm.bundle(chain, order[i], Asm.giveBack());
        }
        due.illegalState("7: the last of eight", () -> chain.start(0, 0, 0));
        Asm.bundle(chain, 4, Asm.giveBack());
        chain.start(0, 0, 0);
        due.same("9: all eight", chain.run(100), 1);
        due.same("10: frames", chain.state(6), 8);
    }

    private static void startAfterCalls() {
        BeltMachine m = Asm.machine(4, 0);
        Asm.bundle(m, 0, Asm.add(0, 1), Asm.add(0, 1));
        Asm.bundle(m, 0, Asm.call(0, 0, 0, 0, 0));
        m.force(0, 5, 6);
        m.run(4);
        due.same("10: most frames", m.state(6), 3);
        m.force(0, 7, 8);
        due.same("10: most frames of the new run", m.state(6), 1);
        belt("7: others are 0", m, 7, 8, 0, 0);
    }

    private static void startAnew() {
        BeltMachine m = Asm.machine(1, 1);
        Asm.bundle(m, 0, Asm.spill(0, 0), Asm.divide(0, 0));
        Asm.pause(m, 0, 3);
        Asm.bundle(m, 0, Asm.giveBack(0));
        m.setCell(3, 33);
        m.start(0, 6, 0);
        m.run(2);
        m.start(0, 7, 0);
        due.same("7: bundle", m.state(2), 0);
        due.same("7: flights", m.state(4), 0);
        due.same("7: cycles", m.state(5), 0);
        belt("7: belt", m, 7);
        due.noElement("7: scratch", () -> m.scratch(0));
        due.same("7: memory stays", m.cell(3), 33);
        due.same("9: to the end", m.run(5), 1);
        due.same("12: the result", m.result(0), 1);
        m.start(0, 0, 0);
        due.noElement("7: no result now", () -> m.result(0));
        trap("9: divides by 0", m, 1, 2);
        m.start(0, 8, 0);
        due.same("7: no trap now", m.state(0), 0);
        due.same("7: goes on", m.run(4), 0);
    }

    private static void forceInputs() {
        BeltMachine m = new BeltMachine();
        due.illegalArgument("8: no function", () -> m.force(0, 0, 0));
        m.function(0, 0);
        due.illegalArgument("8: function -1", () -> m.force(-1, 0, 0));
        due.illegalArgument("8: function 1", () -> m.force(1, 0, 0));
        due.illegalState("8: no run", () -> m.run(1));
        m.force(0, 0, 0);
        due.same("8: one that is not sound", m.state(3), 1);
        due.same("8: no check", m.checked(1), -1);
        due.illegalArgument("8: function 1", () -> m.force(1, 0, 0));
        due.same("8: the run that was", m.state(3), 1);
    }

    private static void runInputs() {
        BeltMachine m = Asm.machine(0, 0);
        Asm.bundle(m, 0, Asm.jump(0));
        due.illegalArgument("9: 0 told first", () -> m.run(0));
        due.illegalState("9: no start", () -> m.run(1));
        m.start(0, 0, 0);
        due.illegalArgument("9: -1", () -> m.run(-1));
        due.illegalArgument("9: 10001", () -> m.run(10001));
        due.illegalArgument("9: least", () -> m.run(Integer.MIN_VALUE));
        due.illegalArgument("9: most", () -> m.run(Integer.MAX_VALUE));
        due.same("10: no cycles yet", m.state(5), 0);
        due.same("9: 10000", m.run(10000), 0);
        due.same("10: cycles", m.state(5), 10000);
        due.same("9: 1", m.run(1), 0);
        due.same("10: cycles", m.state(5), 10001);
    }

    private static void runCycles() {
        BeltMachine m = Asm.machine(0, 0);
        Asm.pause(m, 0, 3);
        Asm.bundle(m, 0, Asm.giveBack());
        m.start(0, 0, 0);
        due.same("9: three of four", m.run(3), 0);
        due.same("10: at the bundle", m.state(2), 3);
        due.same("9: the last one", m.run(1), 1);
        due.same("9: over", m.run(7), 1);
        due.same("10: cycles", m.state(5), 4);
    }

    private static long of(int[] operation, long first, long second) {
        BeltMachine m = Asm.machine(2, 1);
        Asm.bundle(m, 0, operation);
        Asm.pause(m, 0, 3);
        Asm.bundle(m, 0, Asm.giveBack(0));
        return outcome(m, first, second);
    }

    private static void arithmetic() {
        long least = Long.MIN_VALUE;
        long most = Long.MAX_VALUE;
        due.same("CONSTANT", of(Asm.constant(-3), 1, 1), -3);
        due.same("CONSTANT", of(Asm.constant(Integer.MIN_VALUE), 1, 1), Integer.MIN_VALUE);
        due.same("ADD", of(Asm.add(0, 1), 5, -7), -2);
        due.same("ADD", of(Asm.add(1, 1), 5, -7), -14);
        due.same("ADD wraps", of(Asm.add(0, 1), most, 1), least);
        due.same("SUBTRACT", of(Asm.subtract(0, 1), 5, 7), -2);
        due.same("SUBTRACT", of(Asm.subtract(1, 0), 5, 7), 2);
        due.same("SUBTRACT wraps", of(Asm.subtract(0, 1), least, 1), most);
        due.same("LESS", of(Asm.less(0, 1), 5, 7), 1);
        due.same("LESS", of(Asm.less(1, 0), 5, 7), 0);
        due.same("LESS", of(Asm.less(0, 1), 7, 7), 0);
        due.same("LESS far apart", of(Asm.less(0, 1), least, most), 1);
        due.same("SAME", of(Asm.same(0, 1), 7, 7), 1);
        due.same("SAME", of(Asm.same(0, 1), 7, 7 + (1L << 32)), 0);
        due.same("MULTIPLY", of(Asm.multiply(0, 1), -6, 7), -42);
        due.same("MULTIPLY wraps", of(Asm.multiply(0, 1), most, 2), -2);
        due.same("DIVIDE", of(Asm.divide(0, 1), 7, 2), 3);
        due.same("DIVIDE", of(Asm.divide(0, 1), -7, 2), -3);
        due.same("DIVIDE", of(Asm.divide(1, 0), 7, -22), -3);
        due.same("DIVIDE", of(Asm.divide(0, 1), 0, -22), 0);
        due.same("DIVIDE wraps", of(Asm.divide(0, 1), least, -1), least);
    }

    private static void latencies() {
        int[][] operations = Asm.withTwoArguments();
        int[] latency = Asm.LATENCIES;
        for (int i = 0; i < operations.length; i++) {
            BeltMachine m = Asm.machine(2, 0);
            Asm.bundle(m, 0, operations[i]);
            Asm.pause(m, 0, 4);
            m.force(0, 4, 2);
            for (int cycle = 1; cycle <= 5; cycle++) {
                m.run(1);
                boolean landed = latency[i] > 0 && cycle >= latency[i];
                due.same("in flight, code " + i, m.state(4), latency[i] > cycle ? 1 : 0);
                due.same("where the argument is, code " + i, m.belt(landed ? 1 : 0), 4);
            }
        }
        BeltMachine m = Asm.machine(1, 0);
        Asm.bundle(m, 0, Asm.spill(0, 4), Asm.fill(4));
        m.force(0, 9, 0);
        m.run(1);
        belt("FILL", m, 9, 9);
    }

    private static void dropOrder() {
        BeltMachine m = Asm.machine(2, 0);
        Asm.bundle(m, 0, Asm.divide(0, 1), Asm.multiply(0, 1));
        Asm.bundle(m, 0, Asm.multiply(0, 0));
        Asm.bundle(m, 0, Asm.load(1));
        Asm.bundle(m, 0, Asm.constant(1), Asm.constant(2));
        m.setCell(2, 55);
        m.force(0, 10, 2);
        m.run(3);
        belt("landed after three", m, 20, 10, 2);
        m.run(1);
        belt("in the order of issue", m, 2, 1, 55, 100, 5, 20, 10, 2);
        due.same("none in flight", m.state(4), 0);
        BeltMachine full = Asm.machine(4, 0);
        Asm.bundle(full, 0, Asm.constant(1), Asm.constant(2), Asm.constant(3), Asm.constant(4));
        Asm.bundle(full, 0, Asm.constant(5), Asm.constant(6));
        full.force(0, 10, 11);
        full.run(2);
        belt("what was at 7 is gone", full, 6, 5, 4, 3, 2, 1, 10, 11);
        BeltMachine many = Asm.machine(1, 0);
        int[] slow = Asm.divide(0, 0);
        for (int i = 0; i < 5; i++) {
            Asm.bundle(many, 0, slow, slow, slow, slow);
        }
        many.force(0, 9, 0);
        many.run(3);
        due.same("in flight", many.state(4), 12);
        many.run(1);
        due.same("four landed, four issued", many.state(4), 12);
        belt("four landed", many, 1, 1, 1, 1, 9);
    }

    private static void beltAsAtTheBeginning() {
        BeltMachine m = Asm.machine(2, 2);
        Asm.bundle(m, 0, Asm.constant(7), Asm.add(0, 1), Asm.add(0, 0), Asm.branch(0, 2, 1));
        Asm.bundle(m, 0);
        Asm.bundle(m, 0, Asm.giveBack(0, 3));
        m.force(0, 10, 20);
        m.run(1);
        belt("as at the cycle's beginning", m, 20, 30, 7, 20);
        m.run(1);
        due.same("12: result 0", m.result(0), 20);
        due.same("12: result 1", m.result(1), 20);
    }

    private static void worksAtOnce() {
        BeltMachine m = Asm.machine(2, 0);
        Asm.bundle(m, 0, Asm.load(0), Asm.store(0, 1), Asm.load(0));
        Asm.bundle(m, 0, Asm.spill(0, 2), Asm.fill(2), Asm.spill(1, 2), Asm.fill(2));
        m.setCell(3, 100);
        m.force(0, 3, 200);
        m.run(1);
        due.same("the store is done", m.cell(3), 200);
        m.setCell(3, 300);
        m.run(1);
        belt("as operations ahead left them", m, 200, 3, 200, 100, 3, 200);
        due.same("the later spill", m.scratch(2), 200);
    }

    private static void emptyPositionTraps() {
        for (int[] operation : Asm.namingPosition2()) {
            BeltMachine m = Asm.machine(2, 2);
            Asm.bundle(m, 0);
            Asm.bundle(m, 0, Asm.constant(1), operation);
            m.force(0, 1, 1);
            String what = "9: code " + operation[0] + " of a position that is empty";
            trap(what, m, 2, 1);
            due.same(what + ": bundle", m.state(2), 1);
            due.same(what + ": what was issued ahead", m.state(4), 1);
            belt(what, m, 1, 1);
        }
        BeltMachine stays = Asm.machine(2, 2);
        Asm.bundle(stays, 0, Asm.branch(0, 0, 7));
        stays.force(0, 0, 0);
        trap("9: a branch that would not go names it too", stays, 1, 1);
    }

    private static void emptyAheadOfOthers() {
        BeltMachine store = Asm.machine(1, 0);
        Asm.bundle(store, 0, Asm.store(0, 1));
        store.force(0, 99, 0);
        trap("9: TRAP 1 ahead of 3", store, 1, 1);
        BeltMachine giveBack = Asm.machine(1, 1);
        Asm.bundle(giveBack, 0, Asm.constant(1), Asm.giveBack(1));
        giveBack.force(0, 0, 0);
        trap("9: TRAP 1 ahead of 7", giveBack, 1, 1);
        BeltMachine call = Asm.machine(1, 0);
        Asm.bundle(call, 0, Asm.constant(-1), Asm.branch(0, 2, 0));
        Asm.bundle(call, 0, Asm.call(0, 7));
        Asm.bundle(call, 0, Asm.add(0, 1));
        Asm.bundle(call, 0, Asm.call(0, 0));
        call.force(0, 15, 0);
        trap("9: TRAP 1 ahead of 4", call, 15 * 3 + 2, 1);
        due.same("10: there were 16", call.state(3), 16);
        BeltMachine order = Asm.machine(1, 0);
        Asm.bundle(order, 0, Asm.divide(0, 0), Asm.add(7, 7));
        order.force(0, 0, 0);
        trap("9: the operation ahead traps", order, 1, 2);
    }

    private static void divisionTrap() {
        BeltMachine m = Asm.machine(2, 0);
        Asm.bundle(m, 0, Asm.spill(1, 6), Asm.store(1, 0), Asm.divide(0, 1), Asm.store(0, 0));
        m.force(0, 4, 0);
        trap("9: by 0", m, 1, 2);
        due.same("9: what was ahead stays", m.cell(0), 4);
        due.same("9: what was behind is not done", m.cell(4), 0);
        due.same("9: a spill ahead stays", m.scratch(6), 0);
        due.same("9: nothing in flight", m.state(4), 0);
        belt("9: the belt", m, 4, 0);
    }

    private static void memoryTraps() {
        long[] wrong = {-1, 16, 1L << 32, Long.MIN_VALUE, Long.MAX_VALUE};
        for (long cell : wrong) {
            BeltMachine load = Asm.machine(2, 0);
            Asm.bundle(load, 0, Asm.load(0));
            load.force(0, cell, 5);
            trap("9: LOAD of " + cell, load, 1, 3);
            BeltMachine store = Asm.machine(2, 0);
            Asm.bundle(store, 0, Asm.store(0, 1));
            store.force(0, cell, 5);
            trap("9: STORE to " + cell, store, 1, 3);
            due.same("9: nothing stored", store.cell(0), 0);
        }
        for (int cell = 0; cell < 16; cell++) {
            BeltMachine m = Asm.machine(2, 1);
            Asm.bundle(m, 0, Asm.store(0, 1), Asm.load(0));
            Asm.pause(m, 0, 1);
            Asm.bundle(m, 0, Asm.giveBack(0));
            due.same("9: cell " + cell, outcome(m, cell, -cell - 1L), -cell - 1L);
            due.same("14: cell " + cell, m.cell(cell), -cell - 1L);
        }
    }

    private static void fillTrap() {
        BeltMachine m = Asm.machine(1, 0);
        Asm.bundle(m, 0, Asm.spill(0, 3), Asm.fill(3), Asm.fill(2));
        m.force(0, 5, 0);
        trap("9: nothing was spilled", m, 1, 5);
        due.same("9: one in flight", m.state(4), 1);
    }

    private static void missingBundleTraps() {
        BeltMachine m = Asm.machine(1, 0);
        m.force(0, 5, 0);
        trap("9: no bundle at all", m, 1, 6);
        due.same("10: bundle", m.state(2), 0);
        Asm.bundle(m, 0, Asm.divide(0, 0));
        Asm.bundle(m, 0, Asm.branch(0, 23, 0));
        m.force(0, 5, 0);
        due.same("9: goes on till then", m.run(2), 0);
        due.same("10: bundle", m.state(2), 23);
        trap("9: a branch too far", m, 3, 6);
        due.same("10: bundle", m.state(2), 23);
        due.same("10: in flight", m.state(4), 1);
        belt("9: the belt", m, 5);
        BeltMachine last = Asm.machine(0, 0);
        Asm.pause(last, 0, 24);
        last.force(0, 0, 0);
        due.same("9: goes on till then", last.run(24), 0);
        trap("9: behind the last", last, 25, 6);
        due.same("10: bundle", last.state(2), 24);
    }

    private static void returnTrap() {
        BeltMachine m = Asm.machine(1, 1);
        Asm.bundle(m, 0, Asm.constant(1), Asm.giveBack(0));
        m.force(0, 5, 0);
        trap("9: its own result in flight", m, 1, 7);
        due.noElement("12: no result", () -> m.result(0));
        due.same("10: frames", m.state(3), 1);
        BeltMachine load = Asm.machine(1, 1);
        Asm.bundle(load, 0, Asm.load(0));
        Asm.bundle(load, 0, Asm.giveBack(0));
        load.force(0, 5, 0);
        trap("9: in flight in its last cycle", load, 2, 7);
        BeltMachine caller = Asm.machine(0, 1);
        caller.function(0, 1);
        Asm.bundle(caller, 0, Asm.constant(4), Asm.call(1));
        Asm.bundle(caller, 0, Asm.giveBack(1));
        Asm.bundle(caller, 1, Asm.constant(6));
        Asm.bundle(caller, 1, Asm.giveBack(0));
        due.same("9: the caller's flights don't count", outcome(caller, 0, 0), 4);
    }

    private static void frameTrap() {
        BeltMachine m = Asm.machine(0, 0);
        Asm.bundle(m, 0, Asm.constant(1), Asm.constant(2), Asm.call(0));
        Asm.bundle(m, 0, Asm.giveBack());
        m.start(0, 0, 0);
        due.same("9: fifteen calls", m.run(15), 0);
        due.same("10: frames", m.state(3), 16);
        due.same("10: in flight of a new frame", m.state(4), 0);
        trap("9: the sixteenth", m, 16, 4);
        due.same("10: frames", m.state(3), 16);
        due.same("10: most frames", m.state(6), 16);
        due.same("10: in flight", m.state(4), 2);
    }

    private static void branches() {
        BeltMachine m = Asm.machine(4, 3);
        Asm.bundle(m, 0, Asm.branch(1, 2, 1, 0, 1));
        Asm.bundle(m, 0, Asm.giveBack(0, 1, 3));
        Asm.bundle(m, 0, Asm.giveBack(0, 1, 2));
        m.start(0, 7, 0);
        m.run(1);
        belt("9: a branch that does not go", m, 7, 0, 0, 0);
        due.same("10: the one behind", m.state(2), 1);
        m.start(0, 7, -9);
        m.run(1);
        belt("9: a branch that goes", m, -9, 7, -9);
        due.same("10: where it goes", m.state(2), 2);
        m.start(0, 7, 1L << 32);
        m.run(1);
        due.same("9: it looks at the whole value", m.state(2), 2);
        BeltMachine jump = Asm.machine(4, 0);
        Asm.bundle(jump, 0, Asm.jump(0, 3, 2, 1, 0));
        jump.force(0, 7, 8);
        jump.run(1);
        belt("9: a jump", jump, 0, 0, 8, 7);
        jump.run(1);
        belt("9: a jump again", jump, 7, 8, 0, 0);
        BeltMachine eight = Asm.machine(1, 0);
        Asm.bundle(eight, 0, Asm.constant(3), Asm.jump(1, 0, 0, 0, 0, 0, 0, 0, 0));
        eight.force(0, 7, 0);
        eight.run(1);
        belt("9: eight kept, one dropped", eight, 3, 7, 7, 7, 7, 7, 7, 7);
        BeltMachine none = Asm.machine(4, 0);
        Asm.bundle(none, 0, Asm.jump(1));
        none.force(0, 7, 0);
        none.run(1);
        belt("9: none kept", none);
    }

    private static void branchKeepsFlights() {
        BeltMachine m = Asm.machine(2, 0);
        Asm.bundle(m, 0, Asm.multiply(0, 1), Asm.constant(1), Asm.jump(3));
        Asm.pause(m, 0, 4);
        m.force(0, 6, 7);
        m.run(1);
        belt("9: what lands drops behind the jump", m, 1);
        due.same("10: in flight", m.state(4), 1);
        m.run(2);
        belt("9: what flies lands later", m, 42, 1);
    }

    private static void calls() {
        BeltMachine m = Asm.machine(2, 1);
        m.function(3, 1);
        Asm.bundle(m, 0, Asm.constant(5), Asm.call(1, 1, 0, 1));
        Asm.bundle(m, 0, Asm.giveBack(0));
        Asm.bundle(m, 1, Asm.subtract(0, 1));
        Asm.bundle(m, 1, Asm.giveBack(0));
        m.start(0, 10, 3);
        due.same("9: the call", m.run(1), 0);
        due.same("10: function", m.state(1), 1);
        due.same("10: bundle", m.state(2), 0);
        due.same("10: frames", m.state(3), 2);
        due.same("10: cycles", m.state(5), 1);
        belt("9: the arguments", m, 3, 10, 3);
        m.run(2);
        due.same("10: function", m.state(1), 0);
        due.same("10: bundle", m.state(2), 1);
        due.same("10: frames", m.state(3), 1);
        due.same("10: most frames", m.state(6), 2);
        due.same("10: cycles", m.state(5), 3);
        belt("9: results behind what landed", m, -7, 5, 10, 3);
        due.same("9: the end", m.run(1), 1);
        due.same("12: result", m.result(0), -7);
    }

    private static void callerWaits() {
        BeltMachine m = Asm.machine(2, 0);
        m.function(0, 0);
        Asm.bundle(m, 0, Asm.multiply(0, 1), Asm.call(1));
        Asm.pause(m, 0, 3);
        Asm.pause(m, 1, 9);
        Asm.bundle(m, 1, Asm.giveBack());
        m.force(0, 6, 7);
        m.run(10);
        due.same("10: in flight of the one on top", m.state(4), 0);
        m.run(1);
        due.same("9: back", m.state(3), 1);
        due.same("9: a call is one cycle of the caller", m.state(4), 1);
        belt("9: not landed", m, 6, 7);
        m.run(1);
        belt("9: not landed", m, 6, 7);
        m.run(1);
        belt("9: landed", m, 42, 6, 7);
        due.same("10: cycles", m.state(5), 13);
    }

    private static void resultOrder() {
        BeltMachine m = Asm.machine(1, 3);
        m.function(3, 3);
        Asm.bundle(m, 0, Asm.constant(8), Asm.constant(9));
        Asm.bundle(m, 0, Asm.constant(1), Asm.call(1, 0, 1, 2));
        Asm.bundle(m, 0, Asm.giveBack(0, 2, 1));
        Asm.bundle(m, 1, Asm.giveBack(2, 0, 1));
        m.start(0, 7, 0);
        m.run(3);
        belt("9: the last result first", m, 7, 9, 8, 1, 9, 8, 7);
        m.run(1);
        due.same("12: result 0", m.result(0), 7);
        due.same("12: result 1", m.result(1), 8);
        due.same("12: result 2", m.result(2), 9);
    }

    private static void framesAreNew() {
        BeltMachine m = Asm.machine(1, 0);
        m.function(1, 0);
        Asm.bundle(m, 0, Asm.spill(0, 1), Asm.call(1, 0));
        Asm.bundle(m, 0, Asm.call(1, 0));
        Asm.bundle(m, 0, Asm.fill(1));
        Asm.bundle(m, 1, Asm.spill(0, 2));
        Asm.bundle(m, 1, Asm.giveBack());
        m.force(0, 4, 0);
        m.run(1);
        due.noElement("13: the caller's scratch", () -> m.scratch(1));
        m.run(1);
        due.same("13: its own", m.scratch(2), 4);
        m.run(1);
        due.same("13: the caller's again", m.scratch(1), 4);
        due.noElement("13: the other's", () -> m.scratch(2));
        m.run(1);
        due.noElement("13: of an earlier call", () -> m.scratch(2));
        m.run(3);
        belt("9: filled", m, 4, 4);
    }

    private static void codeGrowsInARun() {
        BeltMachine m = Asm.machine(1, 1);
        Asm.bundle(m, 0, Asm.add(0, 0));
        m.force(0, 4, 0);
        m.run(1);
        Asm.bundle(m, 0, Asm.giveBack(0));
        due.same("9: the bundle is there when its cycle begins", m.run(1), 1);
        due.same("12: result", m.result(0), 8);
    }

    private static void stateOfARun() {
        BeltMachine m = Asm.machine(0, 0);
        m.function(1, 1);
        Asm.bundle(m, 1, Asm.multiply(0, 0), Asm.constant(3));
        Asm.pause(m, 1, 2);
        Asm.bundle(m, 1, Asm.giveBack(0));
        m.start(1, 5, 0);
        int[] fresh = {0, 1, 0, 1, 0, 0, 1};
        int[] flying = {0, 1, 1, 1, 1, 1, 1};
        int[] over = {0, -1, -1, 0, 0, 4, 1};
        states("10: a new run", m, fresh);
        m.run(1);
        states("10: a run that goes on", m, flying);
        m.run(9);
        states("10: a run that is over", m, over);
        due.illegalArgument("9: wrong cycles", () -> m.run(0));
        states("10: nothing changed", m, over);
    }

    private static void states(String what, BeltMachine m, int[] want) {
        for (int i = 0; i < want.length; i++) {
            due.same(what + ", what " + i, m.state(i), want[i]);
        }
        for (int other : new int[] {Integer.MIN_VALUE, -1, 7, 8, Integer.MAX_VALUE}) {
            due.same(what + ", what " + other, m.state(other), -1);
        }
    }
}
