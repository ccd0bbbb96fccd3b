/** Promises 7 to 10: starting a run, its cycles and ends, and what state() tells of it. */
public final class RunTest {
    private static final Due due = new Due();

    public static void main(String[] args) {
        due.under("Promise 7: start");
        due.sentence("A run begins", RunTest::startBegins);
        due.sentence("(one that there was is gone)", RunTest::earlierRunIsGone);
        due.sentence("two values are the first arguments, others 0.", RunTest::startArguments);
        due.sentence("IllegalArgumentException if there is no such function",
                RunTest::startOfNoFunction);
        due.sentence("IllegalStateException if it", RunTest::startOfUnsound);
        due.sentence("or one that is called by it", RunTest::unsoundCallee);
        due.sentence("or by one of these, is not sound.", RunTest::unsoundBehindCallees);
        due.under("Promise 8: force");
        due.sentence("The same without any check.", RunTest::force);
        due.sentence("IllegalArgumentException if there is no such function",
                RunTest::forceOfNoFunction);
        due.under("Promise 9: run");
        due.sentence("Up to so many cycles", RunTest::soManyCycles);
        due.sentence("0 if the run goes on", RunTest::goesOn);
        due.sentence("1 if it is over by a RETURN", RunTest::overByReturn);
        due.sentence("2 by a trap.", RunTest::overByTrap);
        due.sentence("IllegalArgumentException if cycles are not 1 .. 10000", RunTest::wrongCycles);
        due.sentence("IllegalStateException if there was no start().", RunTest::noStart);
        due.under("Promise 10: state");
        due.sentence("what 0: the trap, 0 without", RunTest::trapOfState);
        due.sentence("1, 2: the function and bundle of the frame on top", RunTest::frameOnTop);
        due.sentence("(at a trap those where it was)", RunTest::whereTheTrapWas);
        due.sentence("3: frames", RunTest::frames);
        due.sentence("4: results in flight of the one on top", RunTest::flightsOnTop);
        due.sentence("5: cycles so far", RunTest::cyclesSoFar);
        due.sentence("6: as 3, the most there were.", RunTest::mostFrames);
        due.sentence("NONE for another what", RunTest::stateOfAnother);
        due.sentence("all NONE without a run", RunTest::stateWithoutRun);
        due.sentence("1 and 2 NONE, 3 and 4: 0 if it is over by a RETURN.", RunTest::stateWhenOver);
        due.end();
    }

    private static void states(String what, BeltMachine m, int... want) {
        for (int i = 0; i < want.length; i++) {
            due.same(what + ": state " + i, m.state(i), want[i]);
        }
    }

    private static void startBegins() {
        BeltMachine m = Asm.pair(0, 0, 1, 1);
        Asm.bundle(m, 1, Asm.giveBack(0));
        m.start(1, 5, 6);
        states("a new run", m, 0, 1, 0, 1, 0, 0, 1);
        due.belt("its belt", m, 5);
        due.noElement("nothing spilled", () -> m.scratch(0));
        due.noElement("no result", () -> m.result(0));
        due.over("it runs", m, 1);
    }

    private static void earlierRunIsGone() {
        BeltMachine m = Asm.program(2, 1, Asm.spill(0, 0), Asm.divide(0, 1), Asm.store(1, 0));
        Asm.pause(m, 0, 3);
        Asm.bundle(m, 0, Asm.giveBack(0));
        m.start(0, 6, 2);
        m.run(2);
        m.start(0, 9, 3);
        states("one that went on", m, 0, 0, 0, 1, 0, 0, 1);
        due.belt("its belt", m, 9, 3);
        due.noElement("its scratch", () -> m.scratch(0));
        due.same("memory stays", m.cell(2), 6);
        due.over("the new one", m, 5);
        due.same("its result", m.result(0), 3);
        m.start(0, 8, 0);
        states("one that was over", m, 0, 0, 0, 1, 0, 0, 1);
        due.noElement("its result", () -> m.result(0));
        due.trap("the new one", m, 2, 1);
        m.force(0, 8, 4);
        states("one that trapped", m, 0, 0, 0, 1, 0, 0, 1);
        due.noElement("its scratch", () -> m.scratch(0));
        due.over("the new one", m, 5);
        due.same("its result", m.result(0), 2);
    }

    private static void startArguments() {
        long[][] belts = {{}, {-5}, {-5, 1L << 40}, {-5, 1L << 40, 0}, {-5, 1L << 40, 0, 0}};
        for (int count = 0; count <= 4; count++) {
            BeltMachine m = Asm.program(count, 0, Asm.giveBack());
            m.start(0, -5, 1L << 40);
            due.belt("start", m, belts[count]);
            m.force(0, -5, 1L << 40);
            due.belt("force", m, belts[count]);
        }
        BeltMachine again = Asm.program(4, 0, Asm.constant(7), Asm.constant(8));
        Asm.bundle(again, 0, Asm.call(0, 0, 1, 0, 1));
        Asm.go(again, 5, 6, 4);
        again.force(0, 1, 2);
        due.belt("behind a run with other values", again, 1, 2, 0, 0);
    }

    private static void startOfNoFunction() {
        BeltMachine m = new BeltMachine();
        due.illegalArgument("0 of none", () -> m.start(0, 0, 0));
        m.function(0, 0);
        Asm.bundle(m, 0, Asm.giveBack());
        due.illegalArgument("1 of one", () -> m.start(1, 0, 0));
        for (int wrong : Asm.FAR) {
            due.illegalArgument("function " + wrong, () -> m.start(wrong, 0, 0));
        }
        due.same("no run", m.state(0), -1);
        m.start(0, 0, 0);
        due.same("0 of one", m.state(1), 0);
    }

    /** Programs of function 0 with faults 1, 5, 6 (thrice), 7 and 8. */
    private static BeltMachine[] unsound() {
        BeltMachine through = Asm.program(1, 0);
        BeltMachine jump = Asm.program(1, 0, Asm.jump(1));
        BeltMachine other = Asm.program(1, 0, Asm.constant(1), Asm.jump(0, 0));
        return new BeltMachine[] {
            Asm.program(1, 1, Asm.giveBack(1)), Asm.program(1, 0, Asm.fill(0)),
            Asm.machine(1, 0), through, jump,
            Asm.program(1, 0, Asm.constant(1), Asm.giveBack()), other,
        };
    }

    private static void startOfUnsound() {
        int[] faults = {1, 5, 6, 6, 6, 7, 8};
        BeltMachine[] machines = unsound();
        for (int i = 0; i < machines.length; i++) {
            BeltMachine m = machines[i];
            due.illegalState("fault " + faults[i], () -> m.start(0, 1, 2));
            due.same("no run", m.state(3), -1);
            due.same("the fault", m.check(0), faults[i]);
            due.illegalState("when it was checked", () -> m.start(0, 1, 2));
        }
        BeltMachine mended = Asm.program(1, 0);
        due.illegalState("not yet sound", () -> mended.start(0, 1, 2));
        Asm.bundle(mended, 0, Asm.giveBack());
        mended.start(0, 1, 2);
        due.over("sound", mended, 2);
    }

    private static void unsoundCallee() {
        for (int unsound = 1; unsound <= 4; unsound++) {
            BeltMachine m = Asm.machine(0, 0);
            for (int f = 1; f <= 3; f++) {
                m.function(0, 0);
                Asm.bundle(m, f, f == unsound ? Asm.fill(0) : Asm.giveBack());
                Asm.bundle(m, 0, Asm.call(f));
            }
            m.function(0, 0);
            Asm.bundle(m, 0, Asm.giveBack());
            due.same("the caller by itself", m.check(0), 0);
            if (unsound < 4) {
                due.illegalState("callee " + unsound, () -> m.start(0, 0, 0));
                due.same("no run", m.state(3), -1);
            } else {
                m.start(0, 0, 0);
                due.over("one that is not called does not count", m, 7);
            }
        }
        BeltMachine itself = Asm.program(0, 0, Asm.call(0));
        Asm.bundle(itself, 0, Asm.giveBack());
        itself.start(0, 0, 0);
        due.same("one that calls itself", itself.state(3), 1);
    }

    private static void unsoundBehindCallees() {
        BeltMachine chain = new BeltMachine();
        for (int f = 0; f < 8; f++) {
            chain.function(0, 0);
        }
        int[] order = {0, 7, 3, 6, 1, 5, 2, 4};
        for (int i = 0; i < 7; i++) {
            Asm.bundle(chain, order[i], Asm.call(order[i + 1]));
            Asm.bundle(chain, order[i], Asm.giveBack());
        }
        for (int i = 0; i < 7; i++) {
            int f = order[i];
            due.same("by itself", chain.check(f), 0);
            due.illegalState("from " + f, () -> chain.start(f, 0, 0));
        }
        Asm.bundle(chain, 4, Asm.giveBack());
        chain.start(0, 0, 0);
        due.over("all eight", chain, 15);
        due.same("frames", chain.state(6), 8);
        BeltMachine ring = Asm.pair(0, 0, 0, 0);
        for (int f = 0; f < 2; f++) {
            Asm.bundle(ring, f, Asm.call(1 - f));
            Asm.bundle(ring, f, Asm.giveBack());
        }
        ring.start(1, 0, 0);
        due.same("two that call one another", ring.state(1), 1);
    }

    private static void force() {
        for (BeltMachine m : unsound()) {
            m.force(0, 1, 2);
            states("a new run", m, 0, 0, 0, 1, 0, 0, 1);
            due.belt("its belt", m, 1);
            due.same("no check", m.checked(1), -1);
        }
        BeltMachine sound = Asm.program(2, 1, Asm.giveBack(1));
        sound.force(0, 8, 9);
        due.over("one that is sound", sound, 1);
        due.same("its result", sound.result(0), 9);
        sound.force(0, 3, 4);
        due.noElement("one that there was is gone", () -> sound.result(0));
        due.belt("the new one", sound, 3, 4);
    }

    private static void forceOfNoFunction() {
        BeltMachine m = new BeltMachine();
        due.illegalArgument("0 of none", () -> m.force(0, 0, 0));
        m.function(0, 0);
        due.illegalArgument("1 of one", () -> m.force(1, 0, 0));
        for (int wrong : Asm.FAR) {
            due.illegalArgument("function " + wrong, () -> m.force(wrong, 0, 0));
        }
        due.illegalState("no run", () -> m.run(1));
        m.force(0, 0, 0);
        due.same("0 of one", m.state(1), 0);
    }

    private static void soManyCycles() {
        BeltMachine m = Asm.program(0, 0, Asm.jump(0));
        m.start(0, 0, 0);
        int sum = 0;
        for (int cycles : new int[] {1, 2, 7, 9999, 10000}) {
            due.same("goes on", m.run(cycles), 0);
            sum += cycles;
            due.same("cycles", m.state(5), sum);
        }
        BeltMachine few = Asm.machine(0, 0);
        Asm.pause(few, 0, 3);
        Asm.bundle(few, 0, Asm.giveBack());
        few.start(0, 0, 0);
        due.same("fewer if it is over", few.run(10000), 1);
        due.same("cycles", few.state(5), 4);
        due.same("none when it is over", few.run(10000), 1);
        due.same("cycles", few.state(5), 4);
    }

    private static void goesOn() {
        BeltMachine m = Asm.machine(0, 0);
        Asm.pause(m, 0, 3);
        Asm.bundle(m, 0, Asm.giveBack());
        m.start(0, 0, 0);
        for (int cycle = 1; cycle <= 3; cycle++) {
            due.same("cycle " + cycle, m.run(1), 0);
            due.same("its bundle", m.state(2), cycle);
        }
        BeltMachine through = Asm.machine(0, 0);
        Asm.pause(through, 0, 2);
        through.force(0, 0, 0);
        due.same("a trap that is yet to come", through.run(2), 0);
    }

    private static void overByReturn() {
        BeltMachine m = Asm.pair(0, 0, 0, 0);
        Asm.bundle(m, 0, Asm.call(1));
        Asm.bundle(m, 0, Asm.giveBack());
        Asm.bundle(m, 1, Asm.giveBack());
        m.start(0, 0, 0);
        due.same("a callee's RETURN is none", m.run(2), 0);
        due.same("in its last cycle", m.run(1), 1);
        due.same("and then", m.run(1), 1);
        m.start(0, 0, 0);
        due.same("with just as many cycles", m.run(3), 1);
    }

    private static void overByTrap() {
        int[] traps = {1, 5, 6, 6, 6, 7, 0};
        int[] cycles = {1, 1, 1, 2, 2, 1, 0};
        BeltMachine[] machines = unsound();
        for (int i = 0; i < machines.length - 1; i++) {
            machines[i].force(0, 1, 2);
            due.same("in its last cycle", machines[i].run(cycles[i]), 2);
            due.same("the trap", machines[i].state(0), traps[i]);
            due.same("and then", machines[i].run(1), 2);
        }
    }

    private static void wrongCycles() {
        BeltMachine m = Asm.program(0, 0, Asm.jump(0));
        m.start(0, 0, 0);
        for (int wrong : new int[] {Integer.MIN_VALUE, -10000, -1, 0, 10001, Integer.MAX_VALUE}) {
            due.illegalArgument("cycles " + wrong, () -> m.run(wrong));
        }
        due.same("none went by", m.state(5), 0);
        due.same("1", m.run(1), 0);
        due.same("10000", m.run(10000), 0);
        due.same("cycles", m.state(5), 10001);
        BeltMachine over = Asm.program(0, 0, Asm.giveBack());
        Asm.go(over, 0, 0, 1);
        due.illegalArgument("0 when it is over", () -> over.run(0));
    }

    private static void noStart() {
        BeltMachine m = Asm.program(0, 0, Asm.giveBack());
        m.check(0);
        due.illegalState("1", () -> m.run(1));
        due.illegalState("10000", () -> m.run(10000));
        due.illegalArgument("a start() that threw", () -> m.start(1, 0, 0));
        due.illegalState("is none", () -> m.run(1));
        m.force(0, 0, 0);
        due.same("force() begins a run too", m.run(1), 1);
        due.same("one that is over was started", m.run(1), 1);
    }

    private static void trapOfState() {
        BeltMachine m = Asm.program(2, 0, Asm.divide(0, 1), Asm.load(1));
        Asm.bundle(m, 0, Asm.giveBack());
        m.force(0, 8, 4);
        due.same("none yet", m.state(0), 0);
        m.run(1);
        due.same("none of a run that goes on", m.state(0), 0);
        long[][] arguments = {{8, 0}, {8, 16}, {8, 4}};
        int[] traps = {2, 3, 7};
        for (int i = 0; i < traps.length; i++) {
            m.force(0, arguments[i][0], arguments[i][1]);
            due.same("a new run has none", m.state(0), 0);
            due.same("ends by a trap", m.run(10000), 2);
            due.same("the trap", m.state(0), traps[i]);
        }
        BeltMachine over = Asm.program(0, 0, Asm.giveBack());
        Asm.go(over, 0, 0, 1);
        due.same("none of a RETURN", over.state(0), 0);
        BeltMachine deep = Asm.program(0, 0, Asm.call(0));
        Asm.go(deep, 0, 0, 16);
        due.same("frames", deep.state(0), 4);
        int[] ofUnsound = {1, 5, 6, 6, 6, 7};
        BeltMachine[] machines = unsound();
        for (int i = 0; i < ofUnsound.length; i++) {
            Asm.go(machines[i], 1, 2, 9);
            due.same("the trap", machines[i].state(0), ofUnsound[i]);
        }
    }

    /** Function 1 calls function 2, which calls function 0: each in a bundle of its own. */
    private static BeltMachine threeDeep() {
        BeltMachine m = Asm.pair(0, 0, 2, 0);
        m.function(0, 0);
        Asm.bundle(m, 0, Asm.giveBack());
        Asm.pause(m, 1, 2);
        Asm.bundle(m, 1, Asm.multiply(0, 1), Asm.divide(0, 0), Asm.call(2));
        Asm.pause(m, 1, 4);
        Asm.bundle(m, 1, Asm.giveBack());
        Asm.pause(m, 2, 1);
        Asm.bundle(m, 2, Asm.constant(4), Asm.call(0));
        Asm.bundle(m, 2, Asm.giveBack());
        return m;
    }

    /** What state(what) tells at the beginning of a run of threeDeep(), and behind each cycle. */
    private static void eachCycle(int what, int... want) {
        BeltMachine m = threeDeep();
        m.start(1, 5, 6);
        for (int cycles = 0; cycles < want.length; cycles++) {
            due.same("behind " + cycles + " cycles", m.state(what), want[cycles]);
            m.run(1);
        }
        due.same("that was the last", m.run(1), 1);
    }

    private static void frameOnTop() {
        eachCycle(1, 1, 1, 1, 2, 2, 0, 2, 1, 1, 1, 1, 1, -1);
        eachCycle(2, 0, 1, 2, 0, 1, 0, 2, 3, 4, 5, 6, 7, -1);
    }

    private static void whereTheTrapWas() {
        BeltMachine m = Asm.pair(1, 0, 1, 0);
        Asm.pause(m, 0, 1);
        Asm.bundle(m, 0, Asm.call(1, 0));
        Asm.bundle(m, 0, Asm.giveBack());
        Asm.pause(m, 1, 2);
        Asm.bundle(m, 1, Asm.constant(2), Asm.divide(0, 0), Asm.jump(0));
        m.force(0, 0, 0);
        due.trap("in a callee", m, 2, 5);
        due.same("function", m.state(1), 1);
        due.same("bundle", m.state(2), 2);
        BeltMachine control = Asm.pair(1, 1, 0, 0);
        Asm.pause(control, 0, 3);
        Asm.bundle(control, 0, Asm.constant(2), Asm.giveBack(0));
        control.force(0, 0, 0);
        due.trap("of a RETURN", control, 7, 4);
        due.same("function", control.state(1), 0);
        due.same("bundle", control.state(2), 3);
        BeltMachine call = Asm.program(0, 0);
        Asm.bundle(call, 0, Asm.call(0));
        call.force(0, 0, 0);
        due.trap("of a CALL", call, 4, 32);
        due.same("bundle", call.state(2), 1);
    }

    private static void frames() {
        eachCycle(3, 1, 1, 1, 2, 2, 3, 2, 1, 1, 1, 1, 1, 0);
        BeltMachine full = Asm.program(0, 0, Asm.call(0));
        full.force(0, 0, 0);
        for (int frames = 1; frames <= 16; frames++) {
            due.same("frames", full.state(3), frames);
            full.run(1);
        }
        due.same("at a trap", full.state(3), 16);
    }

    private static void flightsOnTop() {
        eachCycle(4, 0, 0, 0, 0, 0, 0, 0, 2, 2, 1, 0, 0, 0);
        BeltMachine m = Asm.program(1, 0, Asm.divide(0, 0), Asm.multiply(0, 0), Asm.load(0),
                Asm.constant(1));
        Asm.bundle(m, 0, Asm.divide(0, 0), Asm.add(1, 7));
        Asm.go(m, 5, 0, 1);
        due.same("three", m.state(4), 3);
        due.trap("ADD", m, 1, 2);
        due.same("at a trap those that were issued", m.state(4), 4);
    }

    private static void cyclesSoFar() {
        eachCycle(5, 0, 1, 2, 3, 4, 5, 6, 7, 8, 9, 10, 11, 12);
        BeltMachine m = Asm.program(0, 0, Asm.jump(0));
        m.start(0, 0, 0);
        for (int i = 1; i <= 20; i++) {
            m.run(10000);
            due.same("over all calls of run()", m.state(5), 10000 * i);
        }
        m.start(0, 0, 0);
        due.same("of a new run", m.state(5), 0);
    }

    private static void mostFrames() {
        eachCycle(6, 1, 1, 1, 2, 2, 3, 3, 3, 3, 3, 3, 3, 3);
        BeltMachine full = Asm.program(0, 0, Asm.call(0));
        Asm.go(full, 0, 0, 20);
        due.same("at a trap", full.state(6), 16);
        full.force(0, 0, 0);
        due.same("of a new run", full.state(6), 1);
    }

    private static void stateOfAnother() {
        BeltMachine m = Asm.program(0, 0, Asm.giveBack());
        int[] others = {Integer.MIN_VALUE, -2, -1, 7, 8, 16, Integer.MAX_VALUE};
        m.start(0, 0, 0);
        for (int what : others) {
            due.same("goes on: " + what, m.state(what), -1);
        }
        m.run(1);
        for (int what : others) {
            due.same("over: " + what, m.state(what), -1);
        }
    }

    private static void stateWithoutRun() {
        BeltMachine m = Asm.program(0, 0, Asm.giveBack());
        m.check(0);
        for (int what = -1; what <= 7; what++) {
            due.same("no start: " + what, m.state(what), -1);
        }
        due.illegalArgument("a start that threw", () -> m.start(1, 0, 0));
        for (int what = -1; what <= 7; what++) {
            due.same("is none: " + what, m.state(what), -1);
        }
    }

    private static void stateWhenOver() {
        BeltMachine m = threeDeep();
        m.start(1, 5, 6);
        due.over("a run", m, 12);
        states("over by a RETURN", m, 0, -1, -1, 0, 0, 12, 3);
        due.same("run again", m.run(1), 1);
        states("run again", m, 0, -1, -1, 0, 0, 12, 3);
    }
}
