/** Promises 1 to 4 and 16: a new object, functions, bundles, operations and their counts. */
public final class BuildTest {
    private static final Due due = new Due();

    public static void main(String[] args) {
        newObject();
        functions();
        bundles();
        operationCounts();
        operationNoFunctionOrCode();
        operationPositions();
        operationLists();
        operationStates();
        operationNotLookedAt();
        throwingChangesNothing();
        counts();
        due.end();
    }

    private static void newObject() {
        BeltMachine m = new BeltMachine();
        due.same("NONE", BeltMachine.NONE, -1);
        due.same("1: functions of a new object", m.count(0), 0);
        for (int i = 0; i < 16; i++) {
            due.same("1: cell " + i, m.cell(i), 0);
        }
        for (int what = -1; what <= 8; what++) {
            due.same("1: state " + what, m.state(what), -1);
        }
        for (int what = -1; what <= 80; what++) {
            due.same("1: checked " + what, m.checked(what), -1);
        }
        due.illegalState("1: run without start", () -> m.run(1));
        due.noElement("1: belt", () -> m.belt(0));
        due.noElement("1: result", () -> m.result(0));
        due.noElement("1: scratch", () -> m.scratch(0));
        m.function(0, 0);
        m.setCell(0, 1);
        due.same("1: objects are apart", new BeltMachine().count(0) + new BeltMachine().cell(0), 0);
    }

    private static void functions() {
        BeltMachine m = new BeltMachine();
        due.illegalArgument("2: -1 arguments", () -> m.function(-1, 0));
        due.illegalArgument("2: 5 arguments", () -> m.function(5, 0));
        due.illegalArgument("2: -1 results", () -> m.function(0, -1));
        due.illegalArgument("2: 4 results", () -> m.function(0, 4));
        due.illegalArgument("2: least", () -> m.function(Integer.MIN_VALUE, Integer.MIN_VALUE));
        due.illegalArgument("2: most", () -> m.function(Integer.MAX_VALUE, Integer.MAX_VALUE));
        for (int i = 0; i < 8; i++) {
            due.same("2: number", m.function(i % 5, i % 4), i);
            due.same("2: bundles of it", m.count(8 + i), 0);
        }
        due.illegalState("2: the ninth", () -> m.function(0, 0));
        due.illegalArgument("2: argument told first", () -> m.function(5, 0));
        due.same("2: still 8", m.count(0), 8);
    }

    private static void bundles() {
        BeltMachine m = new BeltMachine();
        due.illegalArgument("3: no function at all", () -> m.bundle(0));
        m.function(0, 0);
        m.function(0, 0);
        due.illegalArgument("3: function -1", () -> m.bundle(-1));
        due.illegalArgument("3: function 2 of 2", () -> m.bundle(2));
        for (int i = 0; i < 24; i++) {
            due.same("3: number", m.bundle(1), i);
        }
        due.illegalState("3: the 25th", () -> m.bundle(1));
        due.illegalArgument("3: argument told first", () -> m.bundle(8));
        due.same("3: the other function", m.bundle(0), 0);
        due.same("3: count", m.count(9), 24);
    }

    private static void operationCounts() {
        BeltMachine m = new BeltMachine();
        m.function(0, 0);
        m.function(0, 0);
        m.bundle(0);
        m.bundle(1);
        due.same("4: first", m.operation(0, 0, Integer.MIN_VALUE, 0, 0), 1);
        due.same("4: second", m.operation(0, 0, Integer.MAX_VALUE, 0, 0), 2);
        due.same("4: of another function", m.operation(1, 0, 1, 0, 0), 1);
        due.same("4: third", m.operation(0, 0, 1, 0, 0), 3);
        due.same("4: fourth", m.operation(0, 12, 0, 23, 0), 4);
        m.bundle(0);
        due.same("4: the last bundle gets it", m.operation(0, 0, 1, 0, 0), 1);
    }

    private static void operationNoFunctionOrCode() {
        BeltMachine m = new BeltMachine();
        due.illegalArgument("4: no function", () -> m.operation(0, 0, 0, 0, 0));
        m.function(0, 0);
        m.bundle(0);
        due.illegalArgument("4: function -1", () -> m.operation(-1, 0, 0, 0, 0));
        due.illegalArgument("4: function 1", () -> m.operation(1, 0, 0, 0, 0));
        due.illegalArgument("4: code -1", () -> m.operation(0, -1, 0, 0, 0));
        due.illegalArgument("4: code 15", () -> m.operation(0, 15, 0, 0, 0));
        due.illegalArgument("4: code 2^31-1", () -> m.operation(0, Integer.MAX_VALUE, 0, 0, 0));
    }

    /** By code: 'p' a position or scratch cell (0 to 7), 'b' a bundle (0 to 23), '-' whatever. */
    private static final String[] OPERANDS = {
        "--", "pp", "pp", "pp", "pp", "pp", "pp", "p-", "pp", "pp", "p-", "pb", "-b",
    };

    private static void operationPositions() {
        for (int code = 0; code < OPERANDS.length; code++) {
            for (int place = 0; place < 2; place++) {
                for (int value : new int[] {Integer.MIN_VALUE, -1, 0, 7, 8, 23, 24, 1 << 30}) {
                    oneOperand(code, place, value);
                }
            }
        }
    }

    private static void oneOperand(int code, int place, int value) {
        char kind = OPERANDS[code].charAt(place);
        boolean fine = kind == '-' || value >= 0 && value < (kind == 'p' ? 8 : 24);
        BeltMachine m = new BeltMachine();
        m.function(0, 0);
        m.bundle(0);
        int a = place == 0 ? value : 0;
        int b = place == 1 ? value : 0;
        String what = "4: operation(0, " + code + ", " + a + ", " + b + ", 0)";
        if (fine) {
            due.same(what, m.operation(0, code, a, b, 0), 1);
        } else {
            due.illegalArgument(what, () -> m.operation(0, code, a, b, 0));
        }
    }

    private static boolean takes(int code, int a, int list) {
        BeltMachine m = new BeltMachine();
        m.function(2, 3);
        m.function(4, 0);
        m.bundle(0);
        try {
            m.operation(0, code, a, 0, list);
            return true;
        } catch (IllegalArgumentException e) {
            return false;
        }
    }

    private static void operationLists() {
        for (int code = 11; code <= 12; code++) {
            due.isTrue("4: no list", takes(code, 0, 0));
            due.isTrue("4: position 7", takes(code, 0, 0x8));
            due.isTrue("4: position 8", !takes(code, 0, 0x9));
            due.isTrue("4: position 14", !takes(code, 0, 0xF));
            due.isTrue("4: position 8 as second", !takes(code, 0, 0x91));
            due.isTrue("4: behind a 0", takes(code, 0, 0x9901));
            due.isTrue("4: eight", takes(code, 0, 0x81234567));
            due.isTrue("4: the eighth too great", !takes(code, 0, 0x91234567));
            due.isTrue("4: the eighth too great", !takes(code, 0, -1));
        }
        due.isTrue("4: call with two", takes(13, 0, 0x21));
        due.isTrue("4: call with two, bits behind", takes(13, 0, 0xFFFFF021));
        due.isTrue("4: call with one", !takes(13, 0, 0x1));
        due.isTrue("4: call with three", !takes(13, 0, 0x111));
        due.isTrue("4: call with position 8", !takes(13, 0, 0x19));
        due.isTrue("4: call with four", takes(13, 1, 0x8888));
        due.isTrue("4: call with none", !takes(13, 1, 0));
        due.isTrue("4: call of -1", !takes(13, -1, 0));
        due.isTrue("4: call of 2", !takes(13, 2, 0));
        due.isTrue("4: return of three", takes(14, 0, 0x112));
        due.isTrue("4: return of two", !takes(14, 0, 0x12));
        due.isTrue("4: return of four", !takes(14, 0, 0x1112));
        due.isTrue("4: return of position 8", !takes(14, 0, 0x911));
    }

    private static void operationStates() {
        BeltMachine m = new BeltMachine();
        m.function(0, 0);
        due.illegalState("4: no bundle", () -> m.operation(0, 0, 0, 0, 0));
        due.illegalArgument("4: argument told first", () -> m.operation(0, 1, 8, 0, 0));
        m.bundle(0);
        for (int i = 0; i < 4; i++) {
            m.operation(0, 0, 0, 0, 0);
        }
        due.illegalState("4: the fifth", () -> m.operation(0, 0, 0, 0, 0));
        due.illegalState("4: the fifth, CONTROL", () -> m.operation(0, 14, 0, 0, 0));
        due.illegalArgument("4: argument told first", () -> m.operation(0, 14, 0, 0, 1));
        for (int code = 11; code <= 14; code++) {
            m.bundle(0);
            due.same("4: CONTROL alone", m.operation(0, code, 0, 0, 0), 1);
            due.illegalState("4: behind CONTROL " + code, () -> m.operation(0, 0, 0, 0, 0));
            due.illegalState("4: CONTROL behind it", () -> m.operation(0, 14, 0, 0, 0));
        }
        m.bundle(0);
        due.same("4: behind a bundle with CONTROL", m.operation(0, 0, 0, 0, 0), 1);
    }

    private static void operationNotLookedAt() {
        for (int code = 0; code <= 10; code++) {
            due.isTrue("4: list of " + code, takes(code, 0, -1));
        }
        BeltMachine m = new BeltMachine();
        m.function(0, 0);
        m.bundle(0);
        due.same("4: b of CALL", m.operation(0, 13, 0, -5, 0), 1);
        m.bundle(0);
        due.same("4: a and b of RETURN", m.operation(0, 14, -5, 99, 0), 1);
    }

    private static void throwingChangesNothing() {
        BeltMachine m = new BeltMachine();
        m.function(1, 1);
        Asm.bundle(m, 0, Asm.add(0, 0));
        due.illegalArgument("a wrong operation", () -> m.operation(0, 2, 0, 8, 0));
        due.illegalArgument("a wrong RETURN", () -> m.operation(0, 14, 0, 0, 0));
        due.same("4: none of these counts", m.operation(0, 5, 0, 0, 0), 2);
        due.illegalArgument("2: a wrong function", () -> m.function(0, 4));
        due.same("2: does not count", m.count(0), 1);
        due.illegalArgument("3: a wrong bundle", () -> m.bundle(1));
        due.same("3: does not count", m.count(8), 1);
    }

    private static void counts() {
        BeltMachine m = new BeltMachine();
        m.function(0, 0);
        m.function(0, 0);
        m.bundle(1);
        m.bundle(1);
        due.same("16: functions", m.count(0), 2);
        due.same("16: bundles of 0", m.count(8), 0);
        due.same("16: bundles of 1", m.count(9), 2);
        for (int what : new int[] {Integer.MIN_VALUE, -1, 1, 7, 10, 15, 16, Integer.MAX_VALUE}) {
            due.same("16: count " + what, m.count(what), -1);
        }
        for (int i = 2; i < 8; i++) {
            m.function(0, 0);
        }
        due.same("16: bundles of 7", m.count(15), 0);
        due.same("16: there is no 8", m.count(16), -1);
    }
}
