import java.util.ArrayList;
import java.util.List;
import java.util.function.Consumer;
import java.util.function.Supplier;

/** The two sentences behind the terms, of calls that throw. */
public final class ThrowsTest {
    private static final Due due = new Due();

    public static void main(String[] args) {
        due.under("Terms, exceptions");
        due.sentence("A call that throws changes nothing.", ThrowsTest::changesNothing);
        due.sentence("A call that throws changes nothing.", ThrowsTest::fullStaysFull);
        due.sentence("A call that throws changes nothing.", ThrowsTest::noRunStaysNoRun);
        due.sentence("Of several exceptions the one told first is thrown.",
                ThrowsTest::toldFirstOfFunction);
        due.sentence("Of several exceptions the one told first is thrown.",
                ThrowsTest::toldFirstOfOperation);
        due.sentence("Of several exceptions the one told first is thrown.",
                ThrowsTest::toldFirstOfRun);
        due.end();
    }

    /** In the middle of a run, two frames deep, with a fault found by the checker. */
    private static BeltMachine busy() {
        BeltMachine m = Asm.pair(2, 1, 1, 0);
        Asm.bundle(m, 0, Asm.spill(0, 3), Asm.multiply(0, 1), Asm.call(1, 0));
        Asm.pause(m, 0, 2);
        Asm.bundle(m, 0, Asm.giveBack(0));
        Asm.bundle(m, 1, Asm.spill(0, 2), Asm.constant(5), Asm.divide(0, 0));
        Asm.bundle(m, 1, Asm.fill(6));
        m.function(3, 2);
        m.function(0, 0);
        Asm.bundle(m, 3, Asm.giveBack());
        m.setCell(3, 33);
        m.check(1);
        Asm.go(m, 6, 7, 2);
        return m;
    }

    private static final List<Consumer<BeltMachine>> REFUSED = List.of(
            m -> m.function(-1, 0), m -> m.function(5, 0), m -> m.function(0, -1),
            m -> m.function(0, 4), m -> m.bundle(-1), m -> m.bundle(4),
            m -> m.operation(-1, 0, 0, 0, 0), m -> m.operation(4, 0, 0, 0, 0),
            m -> m.operation(1, -1, 0, 0, 0), m -> m.operation(1, 15, 0, 0, 0),
            m -> m.operation(1, 1, 8, 0, 0), m -> m.operation(1, 8, 0, -1, 0),
            m -> m.operation(1, 9, 0, 8, 0), m -> m.operation(1, 10, 8, 0, 0),
            m -> m.operation(1, 11, 0, 24, 0), m -> m.operation(1, 12, 0, 0, 0x91),
            m -> m.operation(1, 13, 4, 0, 0), m -> m.operation(1, 13, 2, 0, 0x1),
            m -> m.operation(1, 14, 0, 0, 0x1), m -> m.operation(2, 0, 1, 0, 0),
            m -> m.operation(0, 0, 1, 0, 0), m -> m.operation(3, 13, 0, 0, 0x11),
            m -> m.check(-1), m -> m.check(4), m -> m.start(-1, 1, 2), m -> m.start(4, 1, 2),
            m -> m.start(0, 1, 2), m -> m.start(1, 1, 2), m -> m.start(2, 1, 2),
            m -> m.force(-1, 1, 2), m -> m.force(4, 1, 2), m -> m.run(0), m -> m.run(-1),
            m -> m.run(10001), m -> m.belt(-1), m -> m.belt(2), m -> m.belt(8),
            m -> m.result(0), m -> m.scratch(-1), m -> m.scratch(3), m -> m.scratch(8),
            m -> m.cell(-1), m -> m.cell(16));

    private static void changesNothing() {
        List<Object> later = later(busy());
        for (int i = 0; i < REFUSED.size(); i++) {
            BeltMachine m = busy();
            List<Object> before = told(m);
            due.isTrue("call " + i + " is refused", throwing(REFUSED.get(i), m));
            due.isTrue("call " + i + ": all is as before", told(m).equals(before));
            due.isTrue("call " + i + ": what comes then too", later(m).equals(later));
        }
    }

    private static boolean throwing(Consumer<BeltMachine> call, BeltMachine m) {
        try {
            call.accept(m);
            return false;
        } catch (RuntimeException e) {
            return true;
        }
    }

    private static Object answer(Supplier<Object> call) {
        try {
            return call.get();
        } catch (RuntimeException e) {
            return e.getClass();
        }
    }

    /** What can be read, in few enough calls to read it some times. */
    private static List<Object> told(BeltMachine m) {
        List<Object> told = new ArrayList<>();
        for (int i = 0; i < 16; i++) {
            int at = i;
            told.add(m.cell(i));
            told.add(m.count(i));
            if (i < 8) {
                told.add(m.state(i));
                told.add(answer(() -> m.belt(at)));
                told.add(answer(() -> m.scratch(at)));
            }
            if (i < 4) {
                told.add(answer(() -> m.result(at)));
                told.add(List.of(m.checked(at), m.checked(8 + at), m.checked(32 + at),
                        m.checked(56 + at)));
            }
        }
        return told;
    }

    /** What the machine answers to calls that look at all it holds, and then tells. */
    private static List<Object> later(BeltMachine m) {
        List<Object> answers = new ArrayList<>();
        answers.add(m.run(1));
        answers.addAll(told(m));
        answers.add(m.operation(1, 0, 1, 0, 0));
        answers.add(m.bundle(2));
        answers.add(m.function(0, 0));
        for (int f = 0; f < 5; f++) {
            answers.add(m.check(f));
        }
        m.start(3, 0, 0);
        answers.add(m.run(9));
        m.force(0, 1, 1);
        answers.add(m.run(9));
        answers.addAll(told(m));
        return answers;
    }

    private static void fullStaysFull() {
        BeltMachine m = new BeltMachine();
        for (int f = 0; f < 8; f++) {
            m.function(0, 0);
        }
        Asm.pause(m, 0, 23);
        int[] one = Asm.constant(1);
        Asm.bundle(m, 0, one, one, one, one);
        m.check(0);
        List<Object> before = told(m);
        due.illegalState("a ninth function", () -> m.function(1, 1));
        due.illegalState("a 25th bundle", () -> m.bundle(0));
        due.illegalState("a fifth operation", () -> m.operation(0, 14, 0, 0, 0));
        due.illegalState("a run without start()", () -> m.run(1));
        due.isTrue("all is as before", told(m).equals(before));
        due.fault("the code too", m, 6, 23);
    }

    private static void noRunStaysNoRun() {
        BeltMachine m = Asm.program(1, 0, Asm.fill(0));
        due.illegalState("run", () -> m.run(1));
        due.illegalArgument("run", () -> m.run(0));
        due.illegalState("start", () -> m.start(0, 1, 2));
        due.illegalArgument("start", () -> m.start(1, 1, 2));
        due.illegalArgument("force", () -> m.force(1, 1, 2));
        due.illegalArgument("check", () -> m.check(1));
        for (int what = 0; what <= 6; what++) {
            due.same("state " + what, m.state(what), -1);
        }
        due.illegalState("still none", () -> m.run(1));
        due.noElement("no belt", () -> m.belt(0));
        due.same("and no check", m.checked(1), -1);
    }

    private static void toldFirstOfFunction() {
        BeltMachine m = new BeltMachine();
        for (int f = 0; f < 8; f++) {
            m.function(0, 0);
        }
        due.illegalArgument("arguments, and there are 8", () -> m.function(5, 0));
        due.illegalArgument("results, and there are 8", () -> m.function(0, 4));
        due.illegalArgument("both, and there are 8", () -> m.function(-1, -1));
        due.illegalState("there are 8", () -> m.function(4, 3));
    }

    private static void toldFirstOfOperation() {
        BeltMachine m = Asm.machine(1, 1);
        wrongOperations("no bundle", m);
        int[] one = Asm.constant(1);
        Asm.bundle(m, 0, one, one, one, one);
        wrongOperations("four operations", m);
        Asm.bundle(m, 0, Asm.jump(0));
        wrongOperations("CONTROL", m);
        Asm.bundle(m, 0, one, one, one, Asm.jump(0));
        wrongOperations("four operations with CONTROL", m);
    }

    private static void wrongOperations(String what, BeltMachine m) {
        due.illegalArgument(what + ": function", () -> m.operation(1, 0, 0, 0, 0));
        due.illegalArgument(what + ": code", () -> m.operation(0, 15, 0, 0, 0));
        due.illegalArgument(what + ": position a", () -> m.operation(0, 7, 8, 0, 0));
        due.illegalArgument(what + ": position b", () -> m.operation(0, 1, 0, 8, 0));
        due.illegalArgument(what + ": list", () -> m.operation(0, 12, 0, 0, 9));
        due.illegalArgument(what + ": scratch cell", () -> m.operation(0, 9, 0, 8, 0));
        due.illegalArgument(what + ": scratch cell", () -> m.operation(0, 10, 8, 0, 0));
        due.illegalArgument(what + ": bundle", () -> m.operation(0, 12, 0, 24, 0));
        due.illegalArgument(what + ": CALL", () -> m.operation(0, 13, 1, 0, 1));
        due.illegalArgument(what + ": arguments", () -> m.operation(0, 13, 0, 0, 0));
        due.illegalArgument(what + ": results", () -> m.operation(0, 14, 0, 0, 0));
        due.illegalState(what, () -> m.operation(0, 0, 0, 0, 0));
    }

    private static void toldFirstOfRun() {
        BeltMachine m = Asm.machine(0, 0);
        due.illegalArgument("0, and no start()", () -> m.run(0));
        due.illegalArgument("10001, and no start()", () -> m.run(10001));
        due.illegalState("no start()", () -> m.run(10000));
    }
}
