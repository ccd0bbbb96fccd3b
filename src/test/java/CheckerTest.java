/** Promises 5 and 6: what the checker answers, and what it tells of its latest look. */
public final class CheckerTest {
    private static final Due due = new Due();

    public static void main(String[] args) {
        wrongInputs();
        noBundles();
        emptyPositions();
        allNamedPositions();
        latencies();
        flightsInOrder();
        beltOfEight();
        spilledForSure();
        missingBundles();
        returnInFlight();
        otherStates();
        faultOrder();
        branchAndJump();
        calls();
        leastBundleFirst();
        unreachedBundles();
        statesAtAFault();
        latestCheckCounts();
        nothingOfAnEarlierCheck();
        whatOutOfRange();
        due.end();
    }

    /** The fault of function 0 and the bundle it is told of. */
    private static void fault(String what, BeltMachine m, int fault, int bundle) {
        due.same(what + ": fault", m.check(0), fault);
        due.same(what + ": bundle", m.checked(0), bundle);
    }

    private static void state(String what, BeltMachine m, int bundle, int filled, int flights,
            int scratch) {
        due.same(what + ": positions of " + bundle, m.checked(8 + bundle), filled);
        due.same(what + ": flights of " + bundle, m.checked(32 + bundle), flights);
        due.same(what + ": scratch of " + bundle, m.checked(56 + bundle), scratch);
    }

    private static void wrongInputs() {
        BeltMachine m = new BeltMachine();
        due.illegalArgument("5: no function", () -> m.check(0));
        due.same("6: a check that threw is none", m.checked(1), -1);
        m.function(0, 0);
        due.illegalArgument("5: function -1", () -> m.check(-1));
        due.illegalArgument("5: function 1", () -> m.check(1));
        due.illegalArgument("5: function 8", () -> m.check(8));
    }

    private static void noBundles() {
        BeltMachine m = Asm.machine(2, 0);
        fault("5: no bundles", m, 6, 0);
        due.same("6: no states", m.checked(1), 0);
        due.same("6: no looks", m.checked(2), 0);
        state("6: no bundles", m, 0, -1, -1, -1);
    }

    private static void emptyPositions() {
        for (int arguments = 0; arguments <= 4; arguments++) {
            for (int position = 0; position < 8; position++) {
                BeltMachine m = Asm.machine(arguments, 1);
                Asm.bundle(m, 0, Asm.giveBack(position));
                due.same("5: position " + position + " of " + arguments, m.check(0),
                        position < arguments ? 0 : 1);
            }
        }
    }

    private static void allNamedPositions() {
        for (int[] operation : Asm.namingPosition2()) {
            BeltMachine m = Asm.machine(2, 2);
            Asm.bundle(m, 0, operation);
            fault("5: code " + operation[0] + " of a position that is empty", m, 1, 0);
        }
        BeltMachine m = Asm.machine(0, 0);
        Asm.bundle(m, 0, Asm.constant(9), Asm.constant(-9));
        Asm.bundle(m, 0, Asm.giveBack());
        fault("5: a constant names no position", m, 0, -1);
        BeltMachine late = Asm.machine(1, 0);
        Asm.bundle(late, 0, Asm.constant(1), Asm.add(0, 1));
        fault("5: a result is not there in its own cycle", late, 1, 0);
    }

    private static void latencies() {
        int[][] operations = Asm.withTwoArguments();
        int[] latency = Asm.LATENCIES;
        for (int i = 0; i < operations.length; i++) {
            BeltMachine m = Asm.machine(2, 0);
            Asm.bundle(m, 0, operations[i]);
            Asm.pause(m, 0, 4);
            Asm.bundle(m, 0, Asm.giveBack());
            due.same("5: sound", m.check(0), 0);
            for (int cycle = 1; cycle <= 5; cycle++) {
                int landed = latency[i] > 0 && cycle >= latency[i] ? 1 : 0;
                int flying = latency[i] > cycle ? 1 : 0;
                state("6: code " + i, m, cycle, 2 + landed, flying, i == 9 ? 2 : 0);
            }
        }
    }

    private static void flightsInOrder() {
        BeltMachine later = Asm.machine(1, 0);
        Asm.bundle(later, 0, Asm.divide(0, 0));
        Asm.bundle(later, 0, Asm.jump(1, 0));
        fault("5: the same flight a cycle later", later, 8, 1);
        BeltMachine other = Asm.machine(2, 0);
        Asm.bundle(other, 0, Asm.branch(0, 2, 0, 1));
        Asm.bundle(other, 0, Asm.divide(0, 0), Asm.multiply(0, 0), Asm.jump(3, 0));
        Asm.bundle(other, 0, Asm.multiply(0, 0), Asm.divide(0, 0), Asm.jump(3, 0));
        Asm.pause(other, 0, 3);
        Asm.bundle(other, 0, Asm.giveBack());
        fault("5: the same flights in another order", other, 8, 3);
        due.same("6: looks till then", other.checked(2), 3);
        BeltMachine alike = Asm.machine(2, 0);
        Asm.bundle(alike, 0, Asm.branch(0, 2, 0, 1));
        Asm.bundle(alike, 0, Asm.divide(0, 0), Asm.multiply(0, 0), Asm.jump(3, 0));
        Asm.bundle(alike, 0, Asm.divide(1, 0), Asm.constant(4), Asm.multiply(1, 1), Asm.jump(3));
        Asm.pause(alike, 0, 3);
        Asm.bundle(alike, 0, Asm.giveBack());
        fault("5: the same flights", alike, 0, -1);
        state("6: the same flights", alike, 3, 1, 2, 0);
        state("6: the same flights", alike, 4, 1, 2, 0);
        state("6: the same flights", alike, 5, 2, 1, 0);
        state("6: the same flights", alike, 6, 3, 0, 0);
    }

    private static void beltOfEight() {
        BeltMachine m = Asm.machine(0, 0);
        int[] one = Asm.constant(1);
        int[] slow = Asm.divide(7, 7);
        Asm.bundle(m, 0, one, one, one);
        Asm.bundle(m, 0, one, one, one, one);
        Asm.bundle(m, 0, one, one, one, one);
        Asm.bundle(m, 0, Asm.branch(7, 2, 0, 1, 2, 3, 4, 5, 6));
        for (int i = 4; i < 8; i++) {
            Asm.bundle(m, 0, slow, slow, slow, slow);
        }
        Asm.bundle(m, 0, slow, slow, slow, Asm.jump(9));
        Asm.pause(m, 0, 3);
        Asm.bundle(m, 0, Asm.giveBack());
        fault("5: a full belt", m, 0, -1);
        int[] filled = {0, 3, 7, 8, 8, 8, 8, 8, 8, 4, 8, 8, 8};
        int[] flights = {0, 0, 0, 0, 0, 4, 8, 12, 12, 11, 7, 3, 0};
        for (int i = 0; i < filled.length; i++) {
            state("6: a full belt", m, i, filled[i], flights[i], 0);
        }
        due.same("6: bundles with a state", m.checked(1), 13);
        due.same("6: looks", m.checked(2), 13);
    }

    private static void spilledForSure() {
        BeltMachine none = Asm.machine(1, 0);
        Asm.bundle(none, 0, Asm.fill(0));
        fault("5: nothing spilled", none, 5, 0);
        BeltMachine ahead = Asm.machine(1, 0);
        Asm.bundle(ahead, 0, Asm.spill(0, 7), Asm.fill(7));
        Asm.bundle(ahead, 0, Asm.giveBack());
        fault("5: spilled ahead in the bundle", ahead, 0, -1);
        state("6: spilled ahead in the bundle", ahead, 1, 2, 0, 128);
        BeltMachine behind = Asm.machine(1, 0);
        Asm.bundle(behind, 0, Asm.fill(7), Asm.spill(0, 7));
        fault("5: spilled behind in the bundle", behind, 5, 0);
        BeltMachine other = Asm.machine(1, 0);
        Asm.bundle(other, 0, Asm.spill(0, 0), Asm.spill(0, 6));
        Asm.bundle(other, 0, Asm.fill(7));
        fault("5: others spilled", other, 5, 1);
        cellsThatBothHave();
        lookedAtAgain();
        lookedAtFiveTimes();
    }

    private static void cellsThatBothHave() {
        BeltMachine m = Asm.machine(1, 0);
        Asm.bundle(m, 0, Asm.spill(0, 1), Asm.spill(0, 2), Asm.branch(0, 2, 0));
        Asm.bundle(m, 0, Asm.spill(0, 3), Asm.jump(3, 0));
        Asm.bundle(m, 0, Asm.spill(0, 4));
        Asm.bundle(m, 0, Asm.fill(1), Asm.fill(2));
        Asm.bundle(m, 0, Asm.giveBack());
        fault("5: cells of both ways", m, 0, -1);
        state("6: cells of both ways", m, 0, 1, 0, 0);
        state("6: cells of both ways", m, 2, 1, 0, 6);
        state("6: cells of both ways", m, 3, 1, 0, 6);
        state("6: cells of both ways", m, 4, 3, 0, 6);
        due.same("6: none was looked at twice", m.checked(2), 5);
    }

    /** Bundle 3 leads to bundle 2 when that has been looked at with cell 5. */
    private static void lookedAtAgain() {
        BeltMachine m = Asm.machine(1, 0);
        Asm.bundle(m, 0, Asm.branch(0, 3, 0));
        Asm.bundle(m, 0, Asm.spill(0, 5));
        Asm.bundle(m, 0, Asm.jump(4, 0));
        Asm.bundle(m, 0, Asm.jump(2, 0));
        Asm.bundle(m, 0, Asm.giveBack());
        fault("5: a cell is lost", m, 0, -1);
        due.same("6: one was looked at twice", m.checked(2), 6);
        due.same("6: five have states", m.checked(1), 5);
        state("6: a cell is lost", m, 2, 1, 0, 0);
        state("6: a cell is lost", m, 4, 1, 0, 0);
        BeltMachine bad = Asm.machine(1, 0);
        Asm.bundle(bad, 0, Asm.branch(0, 3, 0));
        Asm.bundle(bad, 0, Asm.spill(0, 5));
        Asm.bundle(bad, 0, Asm.fill(5), Asm.jump(4));
        Asm.bundle(bad, 0, Asm.jump(2, 0));
        Asm.bundle(bad, 0, Asm.giveBack());
        fault("5: a cell is lost that is filled", bad, 5, 2);
        due.same("6: looks till then", bad.checked(2), 5);
        state("6: not looked at again", bad, 4, 1, 0, 32);
    }

    /** A chain of fourteen bundles that loses its four cells one by one. */
    private static void lookedAtFiveTimes() {
        BeltMachine m = Asm.machine(1, 0);
        Asm.bundle(m, 0, Asm.branch(0, 16, 0));
        Asm.bundle(m, 0, Asm.spill(0, 0), Asm.spill(0, 1), Asm.spill(0, 2), Asm.spill(0, 3));
        Asm.pause(m, 0, 13);
        Asm.bundle(m, 0, Asm.giveBack());
        for (int i = 0; i < 4; i++) {
            Asm.bundle(m, 0, i < 3 ? Asm.branch(0, 20 + i, 0) : Asm.jump(23, 0));
        }
        for (int i = 0; i < 4; i++) {
            Asm.bundle(m, 0, Asm.spill(0, i + 1 & 3), Asm.spill(0, i + 2 & 3),
                    Asm.spill(0, i + 3 & 3), Asm.jump(2, 0));
        }
        fault("5: cells are lost one by one", m, 0, -1);
        due.same("6: all have states", m.checked(1), 24);
        due.same("6: the chain is looked at five times", m.checked(2), 10 + 5 * 14);
        state("6: the chain's begin", m, 2, 1, 0, 0);
        state("6: the chain's end", m, 15, 1, 0, 0);
    }

    private static void missingBundles() {
        BeltMachine through = Asm.machine(1, 0);
        Asm.pause(through, 0, 24);
        fault("5: behind the last", through, 6, 23);
        due.same("6: looks", through.checked(2), 24);
        state("6: the last one", through, 23, 1, 0, 0);
        BeltMachine jump = Asm.machine(1, 0);
        Asm.bundle(jump, 0);
        Asm.bundle(jump, 0, Asm.jump(3));
        Asm.bundle(jump, 0, Asm.giveBack());
        fault("5: a jump behind the last", jump, 6, 1);
        due.same("6: it gives no state", jump.checked(1), 2);
        BeltMachine branch = Asm.machine(1, 0);
        Asm.bundle(branch, 0, Asm.branch(0, 2));
        Asm.bundle(branch, 0, Asm.giveBack());
        fault("5: a branch behind the last", branch, 6, 0);
        due.same("6: the one behind has got its state", branch.checked(1), 2);
        BeltMachine last = Asm.machine(1, 0);
        Asm.bundle(last, 0, Asm.branch(0, 0, 0));
        fault("5: behind a branch", last, 6, 0);
        BeltMachine call = Asm.machine(1, 0);
        Asm.bundle(call, 0, Asm.call(0, 0));
        fault("5: behind a call", call, 6, 0);
    }

    private static void returnInFlight() {
        int[][] operations = {Asm.constant(1), Asm.load(0), Asm.multiply(0, 0), Asm.divide(0, 0)};
        for (int i = 0; i < operations.length; i++) {
            for (int cycles = 0; cycles <= 4; cycles++) {
                BeltMachine m = Asm.machine(1, 1);
                Asm.bundle(m, 0, operations[i]);
                Asm.pause(m, 0, cycles);
                Asm.bundle(m, 0, Asm.giveBack(0));
                fault("5: return " + cycles + " behind code " + operations[i][0], m,
                        cycles < i ? 7 : 0, cycles < i ? cycles + 1 : -1);
            }
        }
        BeltMachine m = Asm.machine(1, 1);
        Asm.bundle(m, 0, Asm.constant(1), Asm.giveBack(0));
        fault("5: return in the bundle itself", m, 7, 0);
    }

    private static void otherStates() {
        BeltMachine positions = Asm.machine(1, 0);
        Asm.bundle(positions, 0, Asm.branch(0, 2));
        Asm.bundle(positions, 0);
        Asm.bundle(positions, 0, Asm.giveBack());
        fault("5: another number of positions", positions, 8, 2);
        due.same("6: looks till then", positions.checked(2), 2);
        state("6: it keeps what it has", positions, 2, 0, 0, 0);
        BeltMachine flights = Asm.machine(1, 0);
        Asm.bundle(flights, 0, Asm.spill(0, 0), Asm.branch(0, 2, 0));
        Asm.bundle(flights, 0, Asm.multiply(0, 0));
        Asm.bundle(flights, 0, Asm.giveBack());
        fault("5: other flights", flights, 8, 2);
        state("6: it keeps what it has", flights, 2, 1, 0, 1);
        BeltMachine itself = Asm.machine(0, 0);
        Asm.bundle(itself, 0, Asm.constant(1), Asm.jump(0));
        fault("5: a bundle that leads to itself", itself, 8, 0);
        BeltMachine slower = Asm.machine(1, 0);
        Asm.bundle(slower, 0, Asm.multiply(0, 0), Asm.branch(0, 3, 0));
        Asm.bundle(slower, 0);
        Asm.bundle(slower, 0, Asm.multiply(0, 0), Asm.jump(3));
        Asm.bundle(slower, 0);
        fault("5: as many flights, as long each", slower, 6, 3);
        due.same("6: that state came from two", slower.checked(32 + 3), 1);
    }

    private static void faultOrder() {
        BeltMachine m = Asm.machine(1, 1);
        Asm.bundle(m, 0, Asm.fill(0), Asm.add(5, 5));
        fault("5: FILL ahead", m, 5, 0);
        BeltMachine add = Asm.machine(1, 1);
        Asm.bundle(add, 0, Asm.add(5, 5), Asm.fill(0));
        fault("5: ADD ahead", add, 1, 0);
        BeltMachine both = Asm.machine(1, 1);
        Asm.bundle(both, 0, Asm.constant(1), Asm.giveBack(3));
        fault("5: the position ahead of the flight", both, 1, 0);
        BeltMachine operations = Asm.machine(1, 1);
        Asm.bundle(operations, 0, Asm.branch(3, 9));
        fault("5: the operation ahead of the next bundles", operations, 1, 0);
        BeltMachine behind = Asm.machine(1, 0);
        Asm.bundle(behind, 0, Asm.branch(0, 2, 0));
        Asm.bundle(behind, 0, Asm.constant(1), Asm.branch(0, 20, 0));
        Asm.bundle(behind, 0, Asm.giveBack());
        fault("5: 8 of the one behind ahead of 6", behind, 8, 2);
        BeltMachine target = Asm.machine(1, 0);
        Asm.bundle(target, 0);
        Asm.bundle(target, 0, Asm.constant(1), Asm.branch(0, 0, 0));
        fault("5: 6 of the one behind ahead of 8", target, 6, 1);
    }

    private static void branchAndJump() {
        BeltMachine m = Asm.machine(2, 0);
        Asm.bundle(m, 0, Asm.constant(1), Asm.multiply(0, 1), Asm.branch(0, 2, 0, 1, 0, 1, 1));
        Asm.bundle(m, 0, Asm.jump(3, 2));
        Asm.bundle(m, 0, Asm.jump(3, 5));
        Asm.bundle(m, 0);
        Asm.bundle(m, 0, Asm.giveBack());
        fault("5: branch and jump", m, 0, -1);
        state("6: behind the branch", m, 1, 3, 1, 0);
        state("6: where it goes", m, 2, 6, 1, 0);
        state("6: where both jump", m, 3, 1, 1, 0);
        state("6: behind that", m, 4, 2, 0, 0);
        BeltMachine loop = Asm.machine(1, 0);
        Asm.bundle(loop, 0, Asm.jump(0, 0));
        fault("5: a loop without end", loop, 0, -1);
        due.same("6: one look", loop.checked(2), 1);
        BeltMachine bits = Asm.machine(1, 0);
        bits.bundle(0);
        bits.operation(0, 12, 0, 0, 0x99901);
        fault("5: a list ends at a 0", bits, 0, -1);
    }

    private static void calls() {
        BeltMachine m = Asm.machine(1, 0);
        m.function(2, 3);
        m.function(0, 0);
        Asm.bundle(m, 0, Asm.multiply(0, 0), Asm.call(1, 0, 0));
        Asm.bundle(m, 0, Asm.call(2));
        Asm.bundle(m, 0, Asm.constant(1), Asm.call(1, 0, 3));
        Asm.bundle(m, 0, Asm.giveBack());
        fault("5: what is called is not looked at", m, 0, -1);
        state("6: behind a call", m, 1, 4, 1, 0);
        state("6: behind a call", m, 2, 4, 1, 0);
        state("6: behind a call, full", m, 3, 8, 0, 0);
        due.same("5: what is called", m.check(1), 6);
    }

    private static void leastBundleFirst() {
        BeltMachine m = Asm.machine(1, 0);
        Asm.bundle(m, 0, Asm.jump(3, 0));
        Asm.bundle(m, 0, Asm.fill(0));
        Asm.bundle(m, 0, Asm.giveBack());
        Asm.bundle(m, 0, Asm.branch(0, 1, 0));
        Asm.bundle(m, 0, Asm.add(7, 7));
        fault("5: the least bundle first", m, 5, 1);
        due.same("6: looks till then", m.checked(2), 3);
        due.same("6: states till then", m.checked(1), 4);
        state("6: not led to", m, 2, -1, -1, -1);
        state("6: not looked at", m, 4, 1, 0, 0);
    }

    private static void unreachedBundles() {
        BeltMachine m = Asm.machine(1, 1);
        Asm.bundle(m, 0, Asm.giveBack(0));
        Asm.bundle(m, 0, Asm.add(7, 7));
        Asm.bundle(m, 0, Asm.fill(7), Asm.jump(23));
        fault("5: nothing leads there", m, 0, -1);
        due.same("6: one state", m.checked(1), 1);
        state("6: nothing leads there", m, 1, -1, -1, -1);
        state("6: there is none", m, 23, -1, -1, -1);
    }

    private static void statesAtAFault() {
        BeltMachine m = Asm.machine(3, 0);
        Asm.bundle(m, 0, Asm.spill(2, 1), Asm.branch(0, 2, 0));
        Asm.bundle(m, 0, Asm.load(3));
        Asm.bundle(m, 0, Asm.giveBack());
        fault("5: an empty position", m, 1, 1);
        due.same("6: states", m.checked(1), 3);
        due.same("6: looks", m.checked(2), 2);
        state("6: the one with the fault", m, 1, 3, 0, 2);
        state("6: one that waits", m, 2, 1, 0, 2);
    }

    private static void latestCheckCounts() {
        BeltMachine m = Asm.machine(1, 0);
        m.function(3, 0);
        Asm.bundle(m, 0, Asm.giveBack());
        Asm.bundle(m, 1);
        m.check(0);
        due.same("6: of function 0", m.checked(8), 1);
        fault("5: function 0", m, 0, -1);
        m.check(1);
        due.same("6: of function 1", m.checked(8), 3);
        due.illegalArgument("5: function 2", () -> m.check(2));
        due.same("6: a check that threw", m.checked(8), 3);
        m.start(0, 0, 0);
        due.same("6: start is no check", m.checked(8), 3);
        due.illegalState("7: not sound", () -> m.start(1, 0, 0));
        m.check(0);
        due.illegalState("7: not sound", () -> m.start(1, 0, 0));
        due.same("6: nor one that threw", m.checked(0), -1);
        m.check(1);
        Asm.bundle(m, 1, Asm.giveBack());
        due.same("6: as the code was then", m.checked(1), 1);
        due.same("5: as the code is", m.check(1), 0);
        due.same("6: as the code is", m.checked(1), 2);
    }

    private static void nothingOfAnEarlierCheck() {
        BeltMachine m = Asm.machine(2, 0);
        m.function(1, 0);
        Asm.bundle(m, 0, Asm.spill(0, 0), Asm.multiply(0, 0), Asm.branch(0, 2, 0));
        Asm.bundle(m, 0, Asm.add(7, 7));
        Asm.bundle(m, 0);
        Asm.bundle(m, 1, Asm.giveBack());
        Asm.bundle(m, 1, Asm.fill(0));
        Asm.bundle(m, 1, Asm.fill(0));
        due.same("5: a bundle still waits", m.check(0), 1);
        due.same("6: it has a state", m.checked(10), 1);
        due.same("5: sound", m.check(1), 0);
        due.same("6: no fault", m.checked(0), -1);
        due.same("6: one state", m.checked(1), 1);
        due.same("6: one look", m.checked(2), 1);
        state("6: of function 1", m, 0, 1, 0, 0);
        state("6: of function 1", m, 2, -1, -1, -1);
    }

    private static void whatOutOfRange() {
        BeltMachine m = Asm.machine(1, 0);
        Asm.pause(m, 0, 24);
        m.check(0);
        int[] others = {Integer.MIN_VALUE, -8, -1, 3, 4, 5, 6, 7, 80, 81, 104, Integer.MAX_VALUE};
        for (int what : others) {
            due.same("6: checked " + what, m.checked(what), -1);
        }
        due.same("6: checked 31", m.checked(31), 1);
        due.same("6: checked 55", m.checked(55), 0);
        due.same("6: checked 79", m.checked(79), 0);
    }
}
