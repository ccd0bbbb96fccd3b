/** Promises 5 and 6: what check() answers, and what checked() tells of it. */
public final class CheckedTest {
    private static final Due due = new Due();

    public static void main(String[] args) {
        due.under("Promise 5: check");
        due.sentence("The checker looks at a function: 0 if it is sound", CheckedTest::sound);
        due.sentence("else the fault.", CheckedTest::fault);
        due.sentence("IllegalArgumentException if there is no such function.",
                CheckedTest::noSuchFunction);
        due.under("Promise 6: checked");
        due.sentence("Of the latest check()", CheckedTest::latestCheck);
        due.sentence("that did not throw", CheckedTest::didNotThrow);
        due.sentence("what 0: the bundle of the fault, NONE without", CheckedTest::faultBundle);
        due.sentence("1: how many bundles have a state", CheckedTest::states);
        due.sentence("2: how many looks there were.", CheckedTest::looks);
        due.sentence("Of bundle what - 8: from 8 on the number of its positions that are not EMPTY",
                CheckedTest::positions);
        due.sentence("from 32 on how many results are in flight", CheckedTest::flights);
        due.sentence("from 56 on its scratch cells as bits", CheckedTest::scratchCells);
        due.sentence("NONE of one without a state.", CheckedTest::withoutState);
        due.sentence("NONE for another what", CheckedTest::another);
        due.sentence("or without a check.", CheckedTest::withoutCheck);
        due.end();
    }

    private static void sound() {
        BeltMachine m = Asm.pair(2, 1, 0, 0);
        Asm.bundle(m, 0, Asm.add(0, 1), Asm.call(1));
        Asm.bundle(m, 0, Asm.branch(0, 0, 0, 1));
        Asm.bundle(m, 0, Asm.giveBack(0));
        due.same("sound", m.check(0), 0);
        due.same("asked again", m.check(0), 0);
        due.same("the other one is not", m.check(1), 6);
    }

    private static void fault() {
        BeltMachine m = Asm.pair(1, 1, 1, 0);
        due.same("6", m.check(0), 6);
        Asm.bundle(m, 0, Asm.spill(0, 0));
        due.same("6", m.check(0), 6);
        Asm.bundle(m, 0, Asm.constant(1), Asm.giveBack(0));
        due.same("7", m.check(0), 7);
        Asm.bundle(m, 1, Asm.branch(0, 2));
        Asm.bundle(m, 1, Asm.spill(0, 0));
        Asm.bundle(m, 1, Asm.giveBack());
        due.same("8", m.check(1), 8);
        BeltMachine other = Asm.pair(1, 1, 1, 0);
        Asm.bundle(other, 0, Asm.giveBack(1));
        Asm.bundle(other, 1, Asm.fill(0));
        due.same("1", other.check(0), 1);
        due.same("5", other.check(1), 5);
    }

    private static void noSuchFunction() {
        BeltMachine m = new BeltMachine();
        due.illegalArgument("0 of none", () -> m.check(0));
        m.function(0, 0);
        due.illegalArgument("1 of one", () -> m.check(1));
        for (int wrong : Asm.FAR) {
            due.illegalArgument("function " + wrong, () -> m.check(wrong));
        }
        due.same("0 of one", m.check(0), 6);
        for (int f = 1; f < 8; f++) {
            m.function(0, 0);
        }
        due.same("7 of eight", m.check(7), 6);
        due.illegalArgument("8 of eight", () -> m.check(8));
    }

    /** Function 0 is not sound and has many states, function 1 is and has one. */
    private static BeltMachine two() {
        BeltMachine m = Asm.pair(2, 0, 1, 0);
        Asm.bundle(m, 0, Asm.spill(0, 0), Asm.multiply(0, 0), Asm.branch(0, 2, 0));
        Asm.bundle(m, 0, Asm.add(7, 7));
        Asm.pause(m, 0, 1);
        Asm.bundle(m, 1, Asm.giveBack());
        Asm.bundle(m, 1, Asm.fill(0));
        Asm.bundle(m, 1, Asm.fill(0));
        return m;
    }

    private static void ofFirst(String what, BeltMachine m) {
        due.same(what + ": bundle", m.checked(0), 1);
        due.looks(what, m, 3, 2);
        due.state(what, m, 0, 2, 0, 0);
        due.state(what, m, 1, 2, 1, 1);
        due.state(what, m, 2, 1, 1, 1);
    }

    private static void ofSecond(String what, BeltMachine m) {
        due.same(what + ": bundle", m.checked(0), -1);
        due.looks(what, m, 1, 1);
        due.state(what, m, 0, 1, 0, 0);
        due.noState(what, m, 1);
        due.noState(what, m, 2);
    }

    private static void latestCheck() {
        BeltMachine m = two();
        due.same("function 0", m.check(0), 1);
        ofFirst("function 0", m);
        due.same("function 1", m.check(1), 0);
        ofSecond("function 1", m);
        m.check(0);
        ofFirst("function 0 again", m);
        m.start(1, 0, 0);
        ofFirst("start() is no check()", m);
        m.check(1);
        due.illegalState("start() that throws", () -> m.start(0, 0, 0));
        ofSecond("nor is one that throws", m);
        m.force(0, 0, 0);
        m.run(1);
        ofSecond("nor force(), nor run()", m);
        m.bundle(1);
        m.bundle(0);
        m.operation(0, 0, 1, 0, 0);
        m.function(0, 0);
        ofSecond("what is made later does not count", m);
    }

    private static void didNotThrow() {
        BeltMachine m = two();
        due.illegalArgument("no such function", () -> m.check(2));
        due.same("it is none", m.checked(1), -1);
        m.check(0);
        due.illegalArgument("no such function", () -> m.check(2));
        ofFirst("as before", m);
        due.illegalArgument("no such function", () -> m.check(-1));
        ofFirst("as before", m);
    }

    private static void faultBundle() {
        for (int bundle = 0; bundle < 24; bundle++) {
            BeltMachine m = Asm.machine(1, 0);
            Asm.pause(m, 0, bundle);
            due.fault("none there", m, 6, Math.max(0, bundle - 1));
            Asm.bundle(m, 0, Asm.fill(0));
            due.fault("a FILL", m, 5, bundle);
        }
        BeltMachine m = Asm.program(1, 0, Asm.giveBack());
        due.same("fault", m.check(0), 0);
        due.same("none", m.checked(0), -1);
    }

    private static void states() {
        for (int count = 1; count <= 24; count++) {
            BeltMachine m = Asm.machine(1, 0);
            Asm.pause(m, 0, count - 1);
            Asm.bundle(m, 0, Asm.giveBack());
            Asm.pause(m, 0, 24 - count);
            due.sound("a program", m);
            due.same("states", m.checked(1), count);
        }
        BeltMachine none = Asm.machine(1, 0);
        none.check(0);
        due.same("no bundles", none.checked(1), 0);
        BeltMachine waits = two();
        waits.check(0);
        due.same("those that were not looked at too", waits.checked(1), 3);
    }

    private static void looks() {
        BeltMachine m = Asm.program(1, 0, Asm.branch(0, 3, 0));
        Asm.bundle(m, 0, Asm.spill(0, 5));
        Asm.bundle(m, 0, Asm.jump(4, 0));
        Asm.bundle(m, 0, Asm.jump(2, 0));
        Asm.bundle(m, 0, Asm.giveBack());
        m.check(0);
        due.same("one more than states", m.checked(2), 6);
        m.check(0);
        due.same("of the latest check alone", m.checked(2), 6);
        BeltMachine fault = Asm.program(1, 0, Asm.fill(0));
        fault.check(0);
        due.same("the look that finds a fault", fault.checked(2), 1);
        BeltMachine none = Asm.machine(1, 0);
        none.check(0);
        due.same("no bundles", none.checked(2), 0);
        BeltMachine all = Asm.machine(1, 0);
        Asm.pause(all, 0, 24);
        all.check(0);
        due.same("24", all.checked(2), 24);
    }

    /** A chain of 24 bundles with other states each, as far as there are others. */
    private static BeltMachine chain() {
        BeltMachine m = Asm.program(1, 0, Asm.spill(0, 0));
        for (int bundle = 1; bundle < 23; bundle++) {
            int[] slow = Asm.divide(0, 0);
            if (bundle % 3 == 0) {
                Asm.bundle(m, 0, Asm.spill(0, bundle / 3), slow);
            } else {
                Asm.bundle(m, 0, slow, slow);
            }
        }
        Asm.bundle(m, 0, Asm.jump(0, 0));
        return m;
    }

    private static void positions() {
        BeltMachine m = chain();
        due.fault("a chain", m, 8, 0);
        int[] filled = {1, 1, 1, 1, 1, 3, 5, 6, 8, 8};
        for (int bundle = 0; bundle < 24; bundle++) {
            int want = bundle < filled.length ? filled[bundle] : 8;
            due.same("bundle " + bundle, m.checked(8 + bundle), want);
        }
    }

    private static void flights() {
        BeltMachine m = chain();
        due.fault("a chain", m, 8, 0);
        for (int bundle = 0; bundle < 24; bundle++) {
            int want = 0;
            for (int from = Math.max(1, bundle - 3); from < bundle; from++) {
                want += from % 3 == 0 ? 1 : 2;
            }
            due.same("bundle " + bundle, m.checked(32 + bundle), want);
        }
        BeltMachine none = Asm.machine(1, 0);
        Asm.pause(none, 0, 24);
        none.check(0);
        for (int what = 32; what < 56; what++) {
            due.same("none, " + what, none.checked(what), 0);
        }
    }

    private static void scratchCells() {
        BeltMachine m = chain();
        due.fault("a chain", m, 8, 0);
        for (int bundle = 0; bundle < 24; bundle++) {
            // Bundle 0 spills cell 0, bundle 3 cell 1, and so on.
            int cells = bundle == 0 ? 0 : (bundle - 1) / 3 + 1;
            due.same("bundle " + bundle, m.checked(56 + bundle), (1 << cells) - 1);
        }
        for (int cell = 0; cell < 8; cell++) {
            BeltMachine one = Asm.program(1, 0, Asm.spill(0, cell));
            Asm.bundle(one, 0, Asm.giveBack());
            due.sound("one cell", one);
            due.same("cell " + cell, one.checked(57), 1 << cell);
        }
    }

    private static void withoutState() {
        BeltMachine m = Asm.program(1, 0, Asm.jump(22));
        Asm.pause(m, 0, 21);
        Asm.bundle(m, 0, Asm.giveBack());
        Asm.pause(m, 0, 1);
        due.sound("a program", m);
        for (int bundle = 1; bundle < 24; bundle++) {
            if (bundle != 22) {
                due.noState("nothing leads there", m, bundle);
            }
        }
        due.state("it leads there", m, 22, 0, 0, 0);
        BeltMachine few = Asm.program(1, 0, Asm.giveBack());
        due.sound("a program", few);
        for (int bundle = 1; bundle < 24; bundle++) {
            due.noState("there is none such", few, bundle);
        }
    }

    private static void another() {
        BeltMachine m = Asm.machine(1, 0);
        Asm.pause(m, 0, 24);
        m.check(0);
        int[] others = {Integer.MIN_VALUE, Integer.MIN_VALUE + 8, -8, -1, 3, 4, 5, 6, 7, 80, 81, 104,
            1 << 30, Integer.MAX_VALUE};
        for (int what : others) {
            due.same("checked " + what, m.checked(what), -1);
        }
        due.same("checked 8", m.checked(8), 1);
        due.same("checked 31", m.checked(31), 1);
        due.same("checked 32", m.checked(32), 0);
        due.same("checked 79", m.checked(79), 0);
    }

    private static void withoutCheck() {
        BeltMachine m = new BeltMachine();
        for (int what = -1; what <= 80; what++) {
            due.same("a new object: checked " + what, m.checked(what), -1);
        }
        BeltMachine started = Asm.program(1, 0, Asm.giveBack());
        started.start(0, 0, 0);
        started.run(1);
        for (int what = -1; what <= 80; what++) {
            due.same("start() is none: checked " + what, started.checked(what), -1);
        }
    }
}
