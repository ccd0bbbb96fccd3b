/** The term CYCLE: what a cycle of the frame on top does, in its order, and what ends a run. */
public final class CycleTest {
    private static final Due due = new Due();

    public static void main(String[] args) {
        due.under("Terms, CYCLE");
        due.sentence("A CYCLE of the frame on top, at its bundle", CycleTest::frameOnTop);
        due.sentence("A CYCLE of the frame on top, at its bundle", CycleTest::bundleAsItIsThen);
        due.sentence("the operations issue in order", CycleTest::inOrder);
        due.sentence("each takes values from the belt as it is at the cycle's beginning",
                CycleTest::beltAtTheBeginning);
        due.sentence("and works at once (memory and scratch as operations ahead of it left them)",
                CycleTest::worksAtOnce);
        due.sentence("TRAP 1 if a position that it names is EMPTY", CycleTest::emptyPosition);
        due.sentence("(a ahead of b, then the list in order; of each operation this is seen ahead "
                + "of its other traps).", CycleTest::emptyAheadOfOtherTraps);
        due.sentence("A result is IN FLIGHT for as many cycles as the latency says, this one "
                + "included.", CycleTest::inFlight);
        due.sentence("A BRANCH that goes, and a JUMP: the belt becomes the list's values, the first "
                + "one at 0.", CycleTest::beltBecomesTheList);
        due.sentence("The next bundle is b", CycleTest::nextIsB);
        due.sentence("else it is the one behind this", CycleTest::nextIsBehind);
        due.sentence("(TRAP 6, at the beginning of its cycle, where there is none such).",
                CycleTest::noSuchBundle);
        due.sentence("CALL: TRAP 4 if there are 16 frames.", CycleTest::sixteenFrames);
        due.sentence("A new frame with the arguments on its belt, the first one at 0, is on top, at "
                + "bundle 0", CycleTest::newFrame);
        due.sentence("this one waits, and its cycle goes on when that returns.",
                CycleTest::callerWaits);
        due.sentence("RETURN: TRAP 7 if a result of this frame is in flight.",
                CycleTest::returnInFlight);
        due.sentence("The frame is gone.", CycleTest::frameIsGone);
        due.sentence("Of the first frame of a run the results are those of the run, which is over.",
                CycleTest::firstFrameReturns);
        due.sentence("Else the cycle of the caller goes on with them.", CycleTest::callerGoesOn);
        due.sentence("Then the cycle ends: what has been in flight for its cycles drops, in the "
                + "order of issue", CycleTest::dropsInOrder);
        due.sentence("behind these, of a CALL, its results, the last one first.",
                CycleTest::resultsOfACall);
        due.sentence("(Each cycle is counted when it begins, also one that traps.)",
                CycleTest::cyclesAreCounted);
        due.sentence("A trap ends the run", CycleTest::trapEndsTheRun);
        due.sentence("what the operations ahead of it in this cycle did stays.",
                CycleTest::whatWasDoneStays);
        due.end();
    }

    private static void frameOnTop() {
        BeltMachine m = Asm.pair(1, 0, 1, 0);
        Asm.bundle(m, 0, Asm.constant(5), Asm.call(1, 0));
        Asm.bundle(m, 1, Asm.constant(6));
        Asm.bundle(m, 1, Asm.giveBack());
        Asm.go(m, 9, 0, 2);
        due.same("the callee's cycle", m.state(1), 1);
        due.same("its next bundle", m.state(2), 1);
        due.belt("its belt", m, 6, 9);
        m.run(1);
        due.belt("the caller's belt", m, 5, 9);
        due.same("the caller's next bundle", m.state(2), 1);
    }

    /** A function may get more code while it runs, or waits for its callee. */
    private static void bundleAsItIsThen() {
        BeltMachine m = Asm.pair(1, 1, 0, 1);
        Asm.bundle(m, 0, Asm.call(1));
        Asm.go(m, 9, 0, 1);
        Asm.bundle(m, 1, Asm.constant(5));
        due.same("a bundle of the callee", m.run(1), 0);
        due.belt("its belt", m, 5);
        m.bundle(1);
        m.operation(1, 14, 0, 0, Asm.list(0));
        Asm.bundle(m, 0, Asm.add(0, 1));
        due.same("back to the caller", m.run(1), 0);
        due.belt("its belt", m, 5, 9);
        m.operation(0, 0, 7, 0, 0);
        due.same("a bundle of the caller", m.run(1), 0);
        due.belt("both operations", m, 7, 14, 5, 9);
        due.trap("and none behind it", m, 6, 5);
        m.bundle(0);
        due.same("what comes behind a trap", m.run(1), 2);
        due.same("changes nothing of it", m.state(5), 5);
    }

    private static void inOrder() {
        BeltMachine m = Asm.program(2, 0, Asm.store(0, 0), Asm.store(0, 1), Asm.spill(0, 1),
                Asm.spill(1, 1));
        Asm.bundle(m, 0, Asm.constant(1), Asm.constant(2), Asm.constant(3), Asm.constant(4));
        Asm.go(m, 3, 8, 2);
        due.same("the later STORE", m.cell(3), 8);
        due.same("the later SPILL", m.scratch(1), 8);
        due.belt("the later CONSTANT is newer", m, 4, 3, 2, 1, 3, 8);
        BeltMachine traps = Asm.program(1, 0, Asm.divide(0, 0), Asm.fill(0));
        traps.force(0, 0, 0);
        due.trap("the first one's trap", traps, 2, 1);
        BeltMachine other = Asm.program(1, 0, Asm.fill(0), Asm.divide(0, 0));
        other.force(0, 0, 0);
        due.trap("the first one's trap", other, 5, 1);
    }

    private static void beltAtTheBeginning() {
        BeltMachine m = Asm.program(2, 0, Asm.constant(7), Asm.add(0, 1), Asm.add(0, 0),
                Asm.branch(0, 1, 1));
        Asm.go(m, 10, 20, 1);
        due.belt("BRANCH and ADD", m, 20, 30, 7, 20);
        BeltMachine call = Asm.pair(2, 0, 2, 0);
        Asm.bundle(call, 0, Asm.constant(7), Asm.call(1, 0, 1));
        Asm.go(call, 10, 20, 1);
        due.belt("CALL", call, 10, 20);
        BeltMachine empty = Asm.program(0, 0, Asm.constant(7), Asm.spill(0, 0));
        empty.force(0, 0, 0);
        due.trap("a result of the same cycle is not there", empty, 1, 1);
        BeltMachine later = Asm.program(0, 0, Asm.constant(7));
        Asm.bundle(later, 0, Asm.spill(0, 0));
        Asm.go(later, 0, 0, 2);
        due.same("it is in the next one", later.scratch(0), 7);
    }

    private static void worksAtOnce() {
        BeltMachine m = Asm.program(2, 0, Asm.load(0), Asm.store(0, 1), Asm.load(0));
        Asm.bundle(m, 0, Asm.spill(0, 2), Asm.fill(2), Asm.spill(1, 2), Asm.fill(2));
        m.setCell(3, 100);
        Asm.go(m, 3, 200, 1);
        due.same("the STORE is done", m.cell(3), 200);
        m.setCell(3, 300);
        m.run(1);
        due.belt("as operations ahead left them", m, 200, 3, 200, 100, 3, 200);
        due.same("the later SPILL", m.scratch(2), 200);
        BeltMachine call = Asm.pair(2, 0, 2, 0);
        Asm.bundle(call, 0, Asm.load(0), Asm.call(1, 0, 1));
        Asm.pause(call, 0, 1);
        Asm.bundle(call, 1, Asm.store(0, 1));
        Asm.bundle(call, 1, Asm.giveBack());
        call.setCell(3, 100);
        Asm.go(call, 3, 200, 4);
        due.belt("loaded ahead of the callee's STORE", call, 100, 3, 200);
    }

    private static void emptyPosition() {
        for (int[] operation : Asm.namingPosition2()) {
            String what = "code " + operation[0];
            BeltMachine m = Asm.program(2, 2);
            Asm.bundle(m, 0, Asm.constant(1), operation);
            m.force(0, 1, 1);
            due.trap(what, m, 1, 2);
            due.same(what + ": bundle", m.state(2), 1);
            due.belt(what, m, 1, 1);
            BeltMachine filled = Asm.program(2, 2, Asm.constant(1));
            Asm.bundle(filled, 0, operation);
            Asm.go(filled, 1, 1, 1);
            due.isTrue(what + " where it is not EMPTY", filled.run(1) != 2);
        }
        for (long value : new long[] {0, 1}) {
            BeltMachine branch = Asm.program(1, 0, Asm.branch(0, 0, 0, 1));
            branch.force(0, value, 0);
            due.trap("a BRANCH names its list, whether it goes or not", branch, 1, 1);
        }
        BeltMachine none = Asm.program(0, 0, Asm.spill(0, 0));
        none.force(0, 0, 0);
        due.trap("position 0 of an EMPTY belt", none, 1, 1);
        BeltMachine full = Asm.fullBelt(0);
        Asm.bundle(full, 0, Asm.spill(7, 0));
        Asm.go(full, 0, 0, 2);
        due.same("position 7 of a full belt", full.run(1), 0);
    }

    private static void emptyAheadOfOtherTraps() {
        int[][] operations = {
            Asm.divide(1, 0), Asm.divide(0, 1), Asm.store(0, 1), Asm.store(1, 0), Asm.load(1),
        };
        for (int[] operation : operations) {
            for (long value : new long[] {0, -1}) {
                BeltMachine m = Asm.program(1, 0, operation);
                m.force(0, value, 0);
                due.trap("code " + operation[0] + " of " + value + ": ahead of 2 and 3", m, 1, 1);
            }
        }
        BeltMachine back = Asm.program(1, 1, Asm.constant(1), Asm.giveBack(1));
        back.force(0, 0, 0);
        due.trap("ahead of 7", back, 1, 1);
        BeltMachine call = Asm.program(1, 0, Asm.constant(-1), Asm.branch(0, 2, 0));
        Asm.bundle(call, 0, Asm.call(0, 7));
        Asm.bundle(call, 0, Asm.add(0, 1));
        Asm.bundle(call, 0, Asm.call(0, 0));
        call.force(0, 15, 0);
        due.trap("ahead of 4", call, 1, 15 * 3 + 2);
        due.same("there were 16 frames", call.state(3), 16);
        BeltMachine order = Asm.program(1, 0, Asm.divide(0, 0), Asm.add(7, 7));
        order.force(0, 0, 0);
        due.trap("but not of another operation's", order, 2, 1);
    }

    private static void inFlight() {
        BeltMachine m = Asm.program(2, 0, Asm.divide(0, 1), Asm.multiply(0, 1), Asm.load(1),
                Asm.constant(9));
        Asm.pause(m, 0, 3);
        m.setCell(2, 55);
        Asm.go(m, 10, 2, 1);
        due.belt("one cycle: CONSTANT", m, 9, 10, 2);
        due.same("in flight", m.state(4), 3);
        m.run(1);
        due.belt("two: LOAD", m, 55, 9, 10, 2);
        due.same("in flight", m.state(4), 2);
        m.run(1);
        due.belt("three: MULTIPLY", m, 20, 55, 9, 10, 2);
        due.same("in flight", m.state(4), 1);
        m.run(1);
        due.belt("four: DIVIDE", m, 5, 20, 55, 9, 10, 2);
        due.same("in flight", m.state(4), 0);
        BeltMachine many = Asm.machine(1, 0);
        int[] slow = Asm.divide(0, 0);
        for (int i = 0; i < 5; i++) {
            Asm.bundle(many, 0, slow, slow, slow, slow);
        }
        Asm.go(many, 9, 0, 3);
        due.same("as many as there can be", many.state(4), 12);
        many.run(1);
        due.same("four drop, four more issue", many.state(4), 12);
        due.belt("four", many, 1, 1, 1, 1, 9);
        many.run(1);
        due.belt("a full belt", many, 1, 1, 1, 1, 1, 1, 1, 1);
    }

    private static void beltBecomesTheList() {
        int[][] goes = {Asm.branch(0, 3, 2, 0, 1, 0), Asm.jump(3, 2, 0, 1, 0)};
        for (int[] operation : goes) {
            BeltMachine m = Asm.program(3, 0, Asm.multiply(0, 1), Asm.constant(1), operation);
            Asm.pause(m, 0, 4);
            Asm.go(m, 6, 7, 1);
            due.belt("what drops in this cycle is newer", m, 1, 0, 6, 7, 6);
            due.same("flights stay", m.state(4), 1);
            m.run(2);
            due.belt("and drop in their time", m, 42, 1, 0, 6, 7, 6);
        }
        BeltMachine none = Asm.program(3, 0, Asm.spill(1, 4), Asm.jump(1));
        Asm.go(none, 6, 7, 1);
        due.belt("none", none);
        due.same("the belt alone: scratch cells stay", none.scratch(4), 7);
        BeltMachine full = Asm.program(1, 0, Asm.constant(3), Asm.jump(1, 0, 0, 0, 0, 0, 0, 0, 0));
        Asm.go(full, 7, 0, 1);
        due.belt("eight, and one drops", full, 3, 7, 7, 7, 7, 7, 7, 7);
        BeltMachine stays = Asm.program(3, 0, Asm.constant(3), Asm.branch(0, 0, 2));
        Asm.go(stays, 0, 7, 1);
        due.belt("a BRANCH that does not go", stays, 3, 0, 7, 0);
    }

    private static void nextIsB() {
        int[][] goes = {Asm.branch(0, 0, 0), Asm.branch(0, 2, 0), Asm.branch(0, 3, 0),
            Asm.branch(0, 23, 0), Asm.jump(0), Asm.jump(2), Asm.jump(3), Asm.jump(23)};
        for (int[] operation : goes) {
            BeltMachine m = Asm.program(1, 0);
            Asm.pause(m, 0, 1);
            Asm.bundle(m, 0, operation);
            Asm.go(m, 1, 0, 3);
            due.same("code " + operation[0], m.state(2), operation[2]);
        }
    }

    private static void nextIsBehind() {
        BeltMachine m = Asm.pair(1, 0, 0, 0);
        Asm.pause(m, 0, 1);
        Asm.bundle(m, 0, Asm.constant(0));
        Asm.bundle(m, 0, Asm.branch(0, 0));
        Asm.bundle(m, 0, Asm.call(1));
        Asm.bundle(m, 1, Asm.giveBack());
        m.force(0, 1, 0);
        int[] next = {1, 2, 3, 0, 4};
        for (int bundle : next) {
            m.run(1);
            due.same("the next bundle", m.state(2), bundle);
        }
    }

    private static void noSuchBundle() {
        BeltMachine none = Asm.machine(1, 0);
        none.force(0, 5, 0);
        due.trap("no bundle at all", none, 6, 1);
        due.same("bundle", none.state(2), 0);
        int[][] goes = {Asm.branch(0, 1, 0), Asm.branch(0, 23, 0), Asm.jump(1, 0), Asm.jump(23, 0)};
        for (int[] operation : goes) {
            BeltMachine m = Asm.program(1, 0, Asm.divide(0, 0), operation);
            Asm.go(m, 5, 0, 0);
            due.same("it goes there", m.run(1), 0);
            due.same("no trap till then", m.state(0), 0);
            due.trap("code " + operation[0], m, 6, 2);
            due.same("bundle", m.state(2), operation[2]);
            due.same("nothing drops any more", m.state(4), 1);
            due.belt("nothing drops any more", m, 5);
        }
        BeltMachine last = Asm.machine(0, 0);
        Asm.pause(last, 0, 24);
        Asm.go(last, 0, 0, 0);
        due.same("till behind the last", last.run(24), 0);
        due.trap("behind the 24th", last, 6, 25);
        BeltMachine call = Asm.pair(0, 0, 0, 0);
        Asm.bundle(call, 0, Asm.call(1));
        call.force(0, 0, 0);
        due.trap("a callee without bundles", call, 6, 2);
        due.same("its frame", call.state(3), 2);
        Asm.bundle(call, 1, Asm.giveBack());
        call.force(0, 0, 0);
        due.trap("behind a CALL", call, 6, 3);
        due.same("the caller's frame", call.state(3), 1);
    }

    private static void sixteenFrames() {
        BeltMachine m = Asm.program(0, 0, Asm.constant(1), Asm.constant(2), Asm.call(0));
        Asm.bundle(m, 0, Asm.giveBack());
        m.start(0, 0, 0);
        due.same("fifteen calls", m.run(15), 0);
        due.same("frames", m.state(3), 16);
        due.trap("the sixteenth", m, 4, 16);
        due.same("frames", m.state(3), 16);
        due.same("it was the last one's", m.state(4), 2);
        BeltMachine enough = Asm.program(1, 0, Asm.constant(-1), Asm.branch(0, 2, 0));
        Asm.bundle(enough, 0, Asm.giveBack());
        Asm.bundle(enough, 0, Asm.add(0, 1));
        Asm.bundle(enough, 0, Asm.call(0, 0));
        Asm.bundle(enough, 0, Asm.giveBack());
        enough.start(0, 15, 0);
        due.over("sixteen frames are enough", enough, 15 * 4 + 2);
        due.same("the most there were", enough.state(6), 16);
        enough.start(0, 16, 0);
        due.trap("seventeen are not", enough, 4, 15 * 3 + 3);
    }

    private static void newFrame() {
        BeltMachine m = Asm.pair(3, 0, 4, 0);
        Asm.bundle(m, 0, Asm.spill(0, 1), Asm.multiply(0, 0));
        Asm.bundle(m, 0, Asm.call(1, 2, 1, 0, 1));
        Asm.bundle(m, 1);
        Asm.go(m, 10, 20, 2);
        due.same("function", m.state(1), 1);
        due.same("bundle", m.state(2), 0);
        due.same("frames", m.state(3), 2);
        due.same("nothing in flight", m.state(4), 0);
        due.belt("the arguments", m, 0, 20, 10, 20);
        due.noElement("nothing spilled", () -> m.scratch(1));
        BeltMachine none = Asm.pair(3, 0, 0, 0);
        Asm.bundle(none, 0, Asm.call(1));
        Asm.go(none, 10, 20, 1);
        due.same("function", none.state(1), 1);
        due.belt("no arguments", none);
        BeltMachine again = Asm.pair(1, 0, 1, 0);
        Asm.bundle(again, 0, Asm.call(1, 0));
        Asm.bundle(again, 1, Asm.spill(0, 1), Asm.divide(0, 0), Asm.constant(3), Asm.fill(0));
        again.force(0, 5, 0);
        due.trap("in a callee", again, 5, 2);
        Asm.go(again, 6, 0, 1);
        due.same("it has no flights of an earlier run", again.state(4), 0);
        due.noElement("nor scratch cells", () -> again.scratch(1));
        due.belt("nor values", again, 6);
    }

    private static void callerWaits() {
        BeltMachine m = Asm.pair(2, 0, 0, 0);
        Asm.bundle(m, 0, Asm.multiply(0, 1), Asm.constant(1), Asm.call(1));
        Asm.pause(m, 0, 3);
        Asm.pause(m, 1, 9);
        Asm.bundle(m, 1, Asm.giveBack());
        Asm.go(m, 6, 7, 10);
        due.same("the callee is on top", m.state(1), 1);
        m.run(1);
        due.same("back", m.state(3), 1);
        due.same("the caller's next bundle", m.state(2), 1);
        due.belt("its cycle has ended", m, 1, 6, 7);
        due.same("a CALL is one cycle of the caller", m.state(4), 1);
        m.run(1);
        due.belt("the second cycle", m, 1, 6, 7);
        m.run(1);
        due.belt("the third cycle", m, 42, 1, 6, 7);
    }

    private static void returnInFlight() {
        int[][] operations = {Asm.constant(1), Asm.load(0), Asm.multiply(0, 0), Asm.divide(0, 0)};
        for (int i = 0; i < operations.length; i++) {
            for (int cycles = 0; cycles <= 4; cycles++) {
                String what = cycles + " behind code " + operations[i][0];
                BeltMachine m = Asm.program(1, 1, operations[i]);
                Asm.pause(m, 0, cycles);
                Asm.bundle(m, 0, Asm.giveBack(0));
                m.force(0, 5, 0);
                if (cycles < i) {
                    due.trap(what, m, 7, cycles + 2);
                    due.noElement(what, () -> m.result(0));
                } else {
                    due.over(what, m, cycles + 2);
                }
            }
        }
        BeltMachine own = Asm.program(1, 1, Asm.constant(1), Asm.giveBack(0));
        own.force(0, 5, 0);
        due.trap("of this cycle", own, 7, 1);
        due.same("the frame stays", own.state(3), 1);
        BeltMachine caller = Asm.pair(0, 0, 0, 0);
        Asm.bundle(caller, 0, Asm.constant(4), Asm.call(1));
        Asm.bundle(caller, 0, Asm.giveBack());
        Asm.bundle(caller, 1, Asm.giveBack());
        caller.force(0, 0, 0);
        due.over("flights of the caller don't count", caller, 3);
        BeltMachine callee = Asm.pair(0, 0, 0, 0);
        Asm.bundle(callee, 0, Asm.call(1));
        Asm.bundle(callee, 1, Asm.constant(1), Asm.giveBack());
        callee.force(0, 0, 0);
        due.trap("those of a callee do", callee, 7, 2);
        due.same("its frame stays", callee.state(3), 2);
    }

    private static void frameIsGone() {
        BeltMachine m = Asm.pair(1, 0, 1, 0);
        Asm.bundle(m, 0, Asm.spill(0, 1), Asm.call(1, 0));
        Asm.bundle(m, 0, Asm.call(1, 0));
        Asm.bundle(m, 1, Asm.spill(0, 2), Asm.constant(8));
        Asm.bundle(m, 1, Asm.giveBack());
        Asm.go(m, 4, 0, 3);
        due.same("frames", m.state(3), 1);
        due.same("the caller's scratch", m.scratch(1), 4);
        due.noElement("none of the callee's", () -> m.scratch(2));
        due.belt("the caller's belt", m, 4);
        m.run(1);
        due.noElement("a later frame has none of it", () -> m.scratch(2));
        due.belt("a later frame's belt", m, 4);
        BeltMachine first = Asm.program(1, 0, Asm.spill(0, 0));
        Asm.bundle(first, 0, Asm.giveBack());
        Asm.go(first, 4, 0, 2);
        due.same("no frames", first.state(3), 0);
        due.noElement("no belt", () -> first.belt(0));
        due.noElement("no scratch", () -> first.scratch(0));
    }

    private static void firstFrameReturns() {
        BeltMachine m = Asm.pair(2, 2, 1, 1);
        Asm.bundle(m, 0, Asm.call(1, 0));
        Asm.bundle(m, 0, Asm.giveBack(2, 0));
        Asm.bundle(m, 1, Asm.giveBack(0));
        Asm.go(m, 6, 7, 0);
        due.same("another frame's RETURN", m.run(2), 0);
        due.noElement("another frame's results", () -> m.result(0));
        due.same("the first frame's", m.run(1), 1);
        due.same("result 0", m.result(0), 7);
        due.same("result 1", m.result(1), 6);
        due.same("over", m.run(9), 1);
        due.same("no more cycles", m.state(5), 3);
    }

    private static void callerGoesOn() {
        BeltMachine m = Asm.pair(1, 1, 1, 1);
        m.function(1, 1);
        for (int f = 0; f < 2; f++) {
            Asm.bundle(m, f, Asm.call(f + 1, 0));
            Asm.bundle(m, f, Asm.giveBack(0));
        }
        Asm.bundle(m, 2, Asm.constant(9));
        Asm.bundle(m, 2, Asm.giveBack(0));
        Asm.go(m, 6, 0, 4);
        due.same("the caller, not its caller", m.state(3), 2);
        due.same("its next bundle", m.state(2), 1);
        due.belt("with the results", m, 9, 6);
        m.run(1);
        due.same("then that one's caller", m.state(3), 1);
        due.belt("with its results", m, 9, 6);
        due.over("and so on", m, 6);
        due.same("result", m.result(0), 9);
    }

    private static void dropsInOrder() {
        BeltMachine m = Asm.program(2, 0, Asm.divide(0, 1), Asm.multiply(0, 1));
        Asm.bundle(m, 0, Asm.multiply(0, 0));
        Asm.bundle(m, 0, Asm.load(1));
        Asm.bundle(m, 0, Asm.constant(1), Asm.constant(2));
        m.setCell(2, 55);
        Asm.go(m, 10, 2, 3);
        due.belt("what is due behind three", m, 20, 10, 2);
        m.run(1);
        due.belt("in the order of issue", m, 2, 1, 55, 100, 5, 20, 10, 2);
        BeltMachine full = Asm.fullBelt(0);
        Asm.bundle(full, 0, Asm.constant(9), Asm.constant(10), Asm.constant(11), Asm.constant(12));
        Asm.go(full, 0, 0, 3);
        due.belt("on a full belt", full, 12, 11, 10, 9, 8, 7, 6, 5);
    }

    private static void resultsOfACall() {
        BeltMachine m = Asm.pair(3, 0, 3, 3);
        Asm.bundle(m, 0, Asm.constant(1), Asm.constant(2), Asm.call(1, 0, 1, 2));
        Asm.bundle(m, 1, Asm.giveBack(1, 0, 2));
        Asm.go(m, 6, 7, 2);
        due.belt("result 0 is the newest", m, 7, 6, 0, 2, 1, 6, 7, 0);
        BeltMachine full = Asm.fullBelt(0);
        full.function(3, 3);
        Asm.bundle(full, 0, Asm.constant(9), Asm.call(1, 7, 6, 5));
        Asm.bundle(full, 1, Asm.giveBack(0, 1, 2));
        Asm.go(full, 0, 0, 4);
        due.belt("on a full belt", full, 1, 2, 3, 9, 8, 7, 6, 5);
        BeltMachine none = Asm.pair(1, 0, 0, 0);
        Asm.bundle(none, 0, Asm.constant(1), Asm.call(1));
        Asm.bundle(none, 1, Asm.giveBack());
        Asm.go(none, 6, 0, 2);
        due.belt("none", none, 1, 6);
    }

    private static void cyclesAreCounted() {
        BeltMachine m = Asm.pair(0, 0, 0, 0);
        Asm.bundle(m, 0, Asm.call(1));
        Asm.bundle(m, 0, Asm.giveBack());
        Asm.bundle(m, 1, Asm.giveBack());
        m.start(0, 0, 0);
        due.same("none yet", m.state(5), 0);
        m.run(1);
        due.same("a CALL when it begins", m.state(5), 1);
        m.run(1);
        due.same("the RETURN, not the caller's cycle again", m.state(5), 2);
        m.run(1);
        due.same("the last one", m.state(5), 3);
        int[][] traps = {{1, 1}, {6, 2}, {7, 3}, {10, 5}};
        for (int[] t : traps) {
            BeltMachine one = Asm.program(2, 0);
            one.operation(0, t[0], t[0] == 1 ? 7 : 0, 1, 0);
            one.force(0, -1, 0);
            due.trap("code " + t[0], one, t[1], 1);
        }
        BeltMachine none = Asm.machine(0, 0);
        none.force(0, 0, 0);
        due.trap("a bundle that there is not", none, 6, 1);
    }

    private static void trapEndsTheRun() {
        BeltMachine m = Asm.pair(1, 1, 1, 0);
        Asm.bundle(m, 0, Asm.constant(3), Asm.call(1, 0));
        Asm.bundle(m, 0, Asm.giveBack(0));
        Asm.bundle(m, 1, Asm.multiply(0, 0), Asm.load(0));
        Asm.bundle(m, 1, Asm.giveBack());
        m.force(0, 16, 0);
        due.trap("LOAD of 16", m, 3, 2);
        for (int i = 0; i < 3; i++) {
            due.same("run", m.run(10000), 2);
            due.same("trap", m.state(0), 3);
            due.same("function", m.state(1), 1);
            due.same("bundle", m.state(2), 0);
            due.same("frames", m.state(3), 2);
            due.same("in flight", m.state(4), 1);
            due.same("cycles", m.state(5), 2);
            due.belt("its belt", m, 16);
        }
        due.noElement("no results", () -> m.result(0));
    }

    private static void whatWasDoneStays() {
        BeltMachine m = Asm.program(2, 0, Asm.spill(0, 6), Asm.store(1, 0), Asm.divide(0, 1),
                Asm.store(0, 0));
        m.force(0, 4, 0);
        due.trap("by 0", m, 2, 1);
        due.same("a STORE ahead", m.cell(0), 4);
        due.same("a SPILL ahead", m.scratch(6), 4);
        due.same("but none behind", m.cell(4), 0);
        due.belt("the belt", m, 4, 0);
        BeltMachine flight = Asm.program(1, 0, Asm.constant(1), Asm.multiply(0, 0), Asm.fill(0),
                Asm.constant(2));
        flight.force(0, 4, 0);
        due.trap("FILL", flight, 5, 1);
        due.same("what is in flight stays so", flight.state(4), 2);
        due.belt("and does not drop", flight, 4);
        BeltMachine control = Asm.program(1, 1, Asm.store(0, 0), Asm.spill(0, 0), Asm.constant(1),
                Asm.giveBack(0));
        control.force(0, 4, 0);
        due.trap("RETURN", control, 7, 1);
        due.same("a STORE ahead", control.cell(4), 4);
        due.same("a SPILL ahead", control.scratch(0), 4);
        due.same("a flight", control.state(4), 1);
    }
}
