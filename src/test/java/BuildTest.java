/** Promises 1 to 4 and 16: a new object, functions, bundles, operations and their counts. */
public final class BuildTest {
    private static final Due due = new Due();

    public static void main(String[] args) {
        due.under("Promise 1: A new object");
        due.sentence("`BeltMachine()`: No functions", BuildTest::noFunctions);
        due.sentence("cells are 0", BuildTest::cellsAreZero);
        due.sentence("no run.", BuildTest::noRun);
        due.under("Promise 2: function");
        due.sentence("One more function, without bundles: its number.", BuildTest::oneMoreFunction);
        due.sentence("IllegalArgumentException if it can't have so many arguments or results",
                BuildTest::soManyCantBe);
        due.sentence("IllegalStateException if there are 8.", BuildTest::eightFunctions);
        due.under("Promise 3: bundle");
        due.sentence("A function gets one more bundle, without operations: its number.",
                BuildTest::oneMoreBundle);
        due.sentence("IllegalArgumentException if there is no such function",
                BuildTest::bundleOfNoFunction);
        due.sentence("IllegalStateException if it has 24.", BuildTest::bundles24);
        due.under("Promise 4: operation");
        due.sentence("The last bundle of a function gets one more operation: how many it has then.",
                BuildTest::oneMoreOperation);
        due.sentence("IllegalArgumentException if there is no such function",
                BuildTest::operationOfNoFunction);
        due.sentence("or code", BuildTest::noSuchCode);
        due.sentence("a position (a, b) is not 0 .. 7", BuildTest::positions);
        due.sentence("one of the list is more than 7", BuildTest::listedPositions);
        due.sentence("a scratch cell not 0 .. 7", BuildTest::scratchCells);
        due.sentence("b of 11 and 12 not 0 .. 23", BuildTest::nextBundles);
        due.sentence("a of CALL is no function", BuildTest::callOfNoFunction);
        due.sentence("or its list not as long as that has arguments", BuildTest::listOfCall);
        due.sentence("or that of RETURN not as long as there are results.",
                BuildTest::listOfReturn);
        due.sentence("IllegalStateException if it has no bundle", BuildTest::noBundle);
        due.sentence("that has 4", BuildTest::fourOperations);
        due.sentence("or CONTROL.", BuildTest::behindControl);
        due.under("Promise 16: count");
        due.sentence("what 0: functions", BuildTest::countOfFunctions);
        due.sentence("from 8 on bundles of function what - 8.", BuildTest::countOfBundles);
        due.sentence("NONE for another what.", BuildTest::countOfAnother);
        due.end();
    }

    private static void noFunctions() {
        BeltMachine m = new BeltMachine();
        due.same("functions", m.count(0), 0);
        due.same("bundles of 0", m.count(8), -1);
        due.illegalArgument("no function to check", () -> m.check(0));
        due.illegalArgument("no function to start", () -> m.start(0, 0, 0));
        m.function(1, 1);
        due.same("none of another object", new BeltMachine().count(0), 0);
    }

    private static void cellsAreZero() {
        BeltMachine other = new BeltMachine();
        for (int cell = 0; cell < 16; cell++) {
            other.setCell(cell, 5);
        }
        BeltMachine m = new BeltMachine();
        for (int cell = 0; cell < 16; cell++) {
            due.same("cell " + cell, m.cell(cell), 0);
        }
    }

    private static void noRun() {
        Asm.go(Asm.program(1, 1, Asm.giveBack(0)), 5, 6, 1);
        BeltMachine m = new BeltMachine();
        for (int what = 0; what <= 6; what++) {
            due.same("state " + what, m.state(what), -1);
        }
        due.illegalState("run", () -> m.run(1));
        due.noElement("belt", () -> m.belt(0));
        due.noElement("result", () -> m.result(0));
        due.noElement("scratch", () -> m.scratch(0));
    }

    private static void oneMoreFunction() {
        BeltMachine m = new BeltMachine();
        int number = 0;
        for (int arguments = 0; arguments <= 4; arguments += 4) {
            for (int results = 0; results <= 3; results++) {
                due.same("its number", m.function(arguments, results), number);
                due.same("bundles", m.count(8 + number), 0);
                due.same("functions", m.count(0), number + 1);
                number++;
            }
        }
    }

    private static void soManyCantBe() {
        BeltMachine m = new BeltMachine();
        for (int wrong : Asm.FAR) {
            due.illegalArgument(wrong + " arguments", () -> m.function(wrong, 0));
            due.illegalArgument(wrong + " results", () -> m.function(0, wrong));
        }
        due.illegalArgument("5 arguments", () -> m.function(5, 0));
        due.illegalArgument("4 results", () -> m.function(0, 4));
        due.illegalArgument("4 results of 4 arguments", () -> m.function(4, 4));
        due.same("none was made", m.count(0), 0);
        due.same("the most", m.function(4, 3), 0);
        due.same("the least", m.function(0, 0), 1);
    }

    private static void eightFunctions() {
        BeltMachine m = new BeltMachine();
        for (int f = 0; f < 8; f++) {
            due.same("its number", m.function(0, 0), f);
        }
        due.illegalState("the ninth", () -> m.function(0, 0));
        due.illegalState("the ninth again", () -> m.function(4, 3));
        due.same("still 8", m.count(0), 8);
    }

    private static void oneMoreBundle() {
        BeltMachine m = Asm.pair(0, 0, 0, 0);
        for (int bundle = 0; bundle < 3; bundle++) {
            due.same("its number", m.bundle(1), bundle);
            due.same("no operations", m.operation(1, 0, 0, 0, 0), 1);
            due.same("bundles", m.count(9), bundle + 1);
        }
        due.same("that of another function", m.bundle(0), 0);
        due.same("bundles of another function", m.count(8), 1);
    }

    private static void bundleOfNoFunction() {
        BeltMachine m = new BeltMachine();
        due.illegalArgument("0 of none", () -> m.bundle(0));
        m.function(0, 0);
        due.illegalArgument("1 of one", () -> m.bundle(1));
        due.same("0 of one", m.bundle(0), 0);
        for (int wrong : Asm.FAR) {
            due.illegalArgument("function " + wrong, () -> m.bundle(wrong));
        }
    }

    private static void bundles24() {
        BeltMachine m = Asm.pair(0, 0, 0, 0);
        for (int bundle = 0; bundle < 24; bundle++) {
            due.same("its number", m.bundle(0), bundle);
        }
        due.illegalState("the 25th", () -> m.bundle(0));
        due.same("still 24", m.count(8), 24);
        due.same("another function has room", m.bundle(1), 0);
    }

    private static void oneMoreOperation() {
        BeltMachine m = Asm.pair(0, 1, 0, 0);
        m.bundle(0);
        m.bundle(1);
        due.same("first", m.operation(0, 0, 10, 0, 0), 1);
        due.same("second", m.operation(0, 0, 11, 0, 0), 2);
        due.same("of another function", m.operation(1, 0, 12, 0, 0), 1);
        due.same("third", m.operation(0, 0, 13, 0, 0), 3);
        due.same("fourth", m.operation(0, 12, 0, 1, 0), 4);
        m.bundle(0);
        due.same("the last bundle gets it", m.operation(0, 14, 0, 0, 1), 1);
        Asm.go(m, 0, 0, 1);
        due.belt("as they were told", m, 13, 11, 10);
        due.over("in their bundles", m, 2);
    }

    private static void operationOfNoFunction() {
        BeltMachine m = new BeltMachine();
        due.illegalArgument("0 of none", () -> m.operation(0, 0, 0, 0, 0));
        m.function(0, 0);
        m.bundle(0);
        due.illegalArgument("1 of one", () -> m.operation(1, 0, 0, 0, 0));
        for (int wrong : Asm.FAR) {
            due.illegalArgument("function " + wrong, () -> m.operation(wrong, 0, 0, 0, 0));
        }
        due.same("0 of one", m.operation(0, 0, 0, 0, 0), 1);
    }

    private static void noSuchCode() {
        BeltMachine m = Asm.program(0, 0);
        for (int wrong : Asm.FAR) {
            due.illegalArgument("code " + wrong, () -> m.operation(0, wrong, 0, 0, 0));
        }
        due.illegalArgument("code 15", () -> m.operation(0, 15, 0, 0, 0));
        for (int code = 0; code <= 14; code++) {
            m.bundle(0);
            due.same("code " + code, m.operation(0, code, 0, 0, 0), 1);
        }
    }

    /** Whether the operation is taken by a new bundle of a function with 2 arguments, 3 results. */
    private static boolean takes(int code, int a, int b, int list) {
        BeltMachine m = Asm.pair(2, 3, 4, 0);
        m.bundle(0);
        try {
            return m.operation(0, code, a, b, list) == 1;
        } catch (IllegalArgumentException e) {
            return false;
        }
    }

    /** Whether a takes 0 to most and nothing else, and so b, or both take whatever there is. */
    private static void operands(int code, int mostA, int mostB) {
        for (int value : new int[] {Integer.MIN_VALUE, -1, 0, 7, 8, 15, 23, 24, 1 << 30}) {
            boolean fitsA = mostA < 0 || value >= 0 && value <= mostA;
            boolean fitsB = mostB < 0 || value >= 0 && value <= mostB;
            due.isTrue("a of " + code + ": " + value, takes(code, value, 0, 0) == fitsA);
            due.isTrue("b of " + code + ": " + value, takes(code, 0, value, 0) == fitsB);
        }
    }

    private static void positions() {
        for (int code : new int[] {1, 2, 3, 4, 5, 6, 8}) {
            operands(code, 7, 7);
        }
        operands(7, 7, -1);
        operands(9, 7, 7);
        operands(11, 7, 23);
        operands(0, -1, -1);
    }

    private static void scratchCells() {
        for (int cell = 0; cell < 8; cell++) {
            due.isTrue("SPILL to " + cell, takes(9, 0, cell, 0));
            due.isTrue("FILL of " + cell, takes(10, cell, 0, 0));
        }
        for (int wrong : Asm.FAR) {
            due.isTrue("SPILL to " + wrong, !takes(9, 0, wrong, 0));
            due.isTrue("FILL of " + wrong, !takes(10, wrong, 0, 0));
        }
        due.isTrue("SPILL to 8", !takes(9, 0, 8, 0));
        due.isTrue("FILL of 8", !takes(10, 8, 0, 0));
    }

    private static void nextBundles() {
        for (int code = 11; code <= 12; code++) {
            for (int bundle = 0; bundle < 24; bundle++) {
                due.isTrue(code + " to " + bundle, takes(code, 0, bundle, 0));
            }
            for (int wrong : Asm.FAR) {
                due.isTrue(code + " to " + wrong, !takes(code, 0, wrong, 0));
            }
        }
    }

    private static void listedPositions() {
        for (int code = 11; code <= 12; code++) {
            due.isTrue("none", takes(code, 0, 0, 0));
            for (int place = 0; place < 8; place++) {
                // 0s would end the list, so the places below name position 0.
                int below = 0x11111111 & (1 << 4 * place) - 1;
                due.isTrue("7 at " + place, takes(code, 0, 0, below | 8 << 4 * place));
                due.isTrue("8 at " + place, !takes(code, 0, 0, below | 9 << 4 * place));
                due.isTrue("14 at " + place, !takes(code, 0, 0, below | 15 << 4 * place));
            }
            due.isTrue("8 behind a 0", takes(code, 0, 0, 0x9901));
            due.isTrue("8 behind a 0 at once", takes(code, 0, 0, 0x99999990));
        }
        due.isTrue("7 of a CALL", takes(13, 0, 0, 0x18));
        due.isTrue("8 of a CALL", !takes(13, 0, 0, 0x19));
        due.isTrue("8 of a CALL, the last", !takes(13, 0, 0, 0x91));
        due.isTrue("7 of a RETURN", takes(14, 0, 0, 0x811));
        due.isTrue("8 of a RETURN", !takes(14, 0, 0, 0x119));
        due.isTrue("8 of a RETURN, the last", !takes(14, 0, 0, 0x911));
    }

    private static void callOfNoFunction() {
        due.isTrue("itself", takes(13, 0, 0, 0x21));
        due.isTrue("the last", takes(13, 1, 0, 0x2121));
        for (int wrong : Asm.FAR) {
            due.isTrue("function " + wrong, !takes(13, wrong, 0, 0));
        }
        due.isTrue("behind the last", !takes(13, 2, 0, 0));
        BeltMachine later = Asm.program(0, 0);
        due.illegalArgument("ahead of its making", () -> later.operation(0, 13, 1, 0, 0));
        later.function(0, 0);
        due.same("behind it", later.operation(0, 13, 1, 0, 0), 1);
    }

    /** Lists of all lengths for a CALL or RETURN: those of this length alone are taken. */
    private static void lists(int arguments, int results, int code, int length) {
        int[] lists = {0, 0x1, 0x11, 0x111, 0x1111, 0x11111, 0x11111111};
        for (int i = 0; i < lists.length; i++) {
            BeltMachine m = Asm.pair(4 - arguments, results, arguments, 3 - results);
            m.bundle(0);
            int list = lists[i];
            String what = length + " and list " + Integer.toHexString(list);
            if (i == length) {
                due.same(what, m.operation(0, code, 1, 0, list), 1);
            } else {
                due.illegalArgument(what, () -> m.operation(0, code, 1, 0, list));
            }
        }
    }

    private static void listOfCall() {
        for (int arguments = 0; arguments <= 4; arguments++) {
            lists(arguments, 3, 13, arguments);
        }
        due.isTrue("what is behind a 0 does not count", takes(13, 0, 0, 0xFFFFF021));
    }

    private static void listOfReturn() {
        for (int results = 0; results <= 3; results++) {
            lists(4, results, 14, results);
        }
        due.isTrue("what is behind a 0 does not count", takes(14, 0, 0, 0xFFFF0121));
    }

    private static void noBundle() {
        BeltMachine m = Asm.pair(0, 0, 0, 0);
        m.bundle(1);
        for (int code = 0; code <= 14; code++) {
            int of = code;
            due.illegalState("code " + code, () -> m.operation(0, of, 0, 0, 0));
        }
        m.bundle(0);
        due.same("it has one now", m.operation(0, 0, 0, 0, 0), 1);
    }

    private static void fourOperations() {
        BeltMachine m = Asm.program(0, 0);
        for (int i = 1; i <= 4; i++) {
            due.same("operations", m.operation(0, 0, 0, 0, 0), i);
        }
        for (int code = 0; code <= 14; code++) {
            int of = code;
            due.illegalState("code " + code + " as the fifth", () -> m.operation(0, of, 0, 0, 0));
        }
        m.bundle(0);
        due.same("a new bundle has none", m.operation(0, 0, 0, 0, 0), 1);
    }

    private static void behindControl() {
        for (int code = 11; code <= 14; code++) {
            BeltMachine m = Asm.program(0, 0, Asm.constant(1));
            due.same("CONTROL " + code, m.operation(0, code, 0, 0, 0), 2);
            due.illegalState("behind " + code, () -> m.operation(0, 0, 0, 0, 0));
            due.illegalState("CONTROL behind " + code, () -> m.operation(0, 14, 0, 0, 0));
            m.bundle(0);
            due.same("a new bundle has none", m.operation(0, 0, 0, 0, 0), 1);
        }
    }

    private static void countOfFunctions() {
        BeltMachine m = new BeltMachine();
        for (int f = 0; f <= 8; f++) {
            due.same("functions", m.count(0), f);
            if (f < 8) {
                m.function(0, 0);
            }
        }
    }

    private static void countOfBundles() {
        BeltMachine m = new BeltMachine();
        for (int f = 0; f < 8; f++) {
            m.function(0, 0);
            Asm.pause(m, f, 3 * f);
        }
        for (int f = 0; f < 8; f++) {
            due.same("bundles of " + f, m.count(8 + f), 3 * f);
        }
        Asm.pause(m, 7, 3);
        due.same("bundles of 7", m.count(15), 24);
        Asm.bundle(m, 0, Asm.constant(1), Asm.constant(2));
        due.same("bundles of 0", m.count(8), 1);
    }

    private static void countOfAnother() {
        BeltMachine m = Asm.pair(0, 0, 0, 0);
        for (int what : new int[] {Integer.MIN_VALUE, -8, -1, 1, 7, 10, 15, 16, 1 << 30,
            Integer.MIN_VALUE + 8, Integer.MAX_VALUE}) {
            due.same("count " + what, m.count(what), -1);
        }
        for (int f = 2; f < 8; f++) {
            m.function(0, 0);
        }
        due.same("count 15", m.count(15), 0);
        due.same("count 16", m.count(16), -1);
        due.same("count 7", m.count(7), -1);
    }
}
