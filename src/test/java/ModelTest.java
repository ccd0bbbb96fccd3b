import java.util.Arrays;
import java.util.Objects;
import java.util.function.Supplier;

/**
 * Many programs, good and bad, on the program and on the model: every answer must be the same. The
 * numbers are drawn by a fixed rule, so that each run of this test makes the same calls.
 */
public final class ModelTest {
    private static final int PROGRAMS = 12000;
    // The document promises nothing of what an object answers to later calls.
    private static final int MOST_CALLS = 512;
    private static final Due due = new Due();

    private final int number;
    private final BeltMachine machine = new BeltMachine();
    private final Model model = new Model();
    private final int[] arguments = new int[8];
    private final int[] results = new int[8];
    private int functions;
    private int calls;
    private long seed;
    private boolean careful;
    // A flat program keeps its number of positions, so that many ways may lead to one bundle.
    private boolean flat;

    // How often each trap, fault and end was met: a test that never meets one says nothing of it.
    private static final int[] traps = new int[9];
    private static final int[] faults = new int[9];
    private static final int[] ends = new int[3];
    private static int started;
    private static int deep;
    private static int lookedAgain;
    private static int grown;

    private ModelTest(int number) {
        this.number = number;
        seed = number * 0x9E3779B97F4A7C15L + 1;
        careful = draw(4) != 0;
        flat = careful && draw(3) == 0;
    }

    public static void main(String[] args) {
        for (int i = 0; i < PROGRAMS; i++) {
            new ModelTest(i).go();
        }
        for (int i = 1; i <= 7; i++) {
            due.isTrue("trap " + i + " was met " + traps[i] + " times", traps[i] >= 20);
        }
        for (int i : new int[] {0, 1, 5, 6, 7, 8}) {
            due.isTrue("fault " + i + " was met " + faults[i] + " times", faults[i] >= 20);
        }
        for (int i = 0; i < 3; i++) {
            due.isTrue("run() answered " + i + " " + ends[i] + " times", ends[i] >= 100);
        }
        due.isTrue("started " + started, started >= 100);
        due.isTrue("runs with calls " + deep, deep >= 100);
        due.isTrue("bundles looked at again " + lookedAgain, lookedAgain >= 20);
        due.isTrue("programs that grew while they ran " + grown, grown >= 100);
        System.out.println("traps " + Arrays.toString(traps) + ", faults " + Arrays.toString(faults)
                + ", ends " + Arrays.toString(ends) + ", started " + started + ", with calls " + deep
                + ", looked at again " + lookedAgain + ", grown while they ran " + grown);
        due.end();
    }

    private int draw(int bound) {
        seed ^= seed << 13;
        seed ^= seed >>> 7;
        seed ^= seed << 17;
        return (int) Long.remainderUnsigned(seed, bound);
    }

    private static Object answer(Supplier<Object> call) {
        try {
            return call.get();
        } catch (RuntimeException e) {
            return e.getClass().getSimpleName();
        }
    }

    private Object both(String what, Supplier<Object> got, Supplier<Object> want) {
        if (calls == MOST_CALLS) {
            return "no call is left";
        }
        calls++;
        Object is = answer(got);
        Object wanted = answer(want);
        if (!Objects.equals(is, wanted)) {
            due.same("program " + number + ": " + what + " " + is + " and not " + wanted, 0, 1);
        }
        return wanted;
    }

    private void go() {
        int wanted = 1 + draw(3);
        for (int i = 0; i < wanted; i++) {
            function(flat ? 1 + draw(4) : draw(5), draw(4));
        }
        if (draw(8) == 0) {
            function(draw(7) - 1, draw(6) - 1);
        }
        for (int f = 0; f < functions; f++) {
            fill(f);
        }
        reads(4);
        for (int f = draw(9) == 0 ? -1 : 0; f < functions; f++) {
            check(f);
        }
        // Those that are made while a program runs are not begun by themselves.
        int made = functions;
        for (int f = 0; f < made; f++) {
            begin(f);
            runs();
        }
        due.same("done", 0, 0);
    }

    private void function(int as, int rs) {
        Object made = both("function", () -> machine.function(as, rs), () -> model.function(as, rs));
        if (made instanceof Integer) {
            arguments[functions] = as;
            results[functions] = rs;
            functions++;
        }
    }

    private void fill(int f) {
        int bundles = draw(10) == 0 ? draw(27) : 2 + draw(flat ? 16 : 6);
        int filled = arguments[f];
        for (int i = 0; i < bundles; i++) {
            bundle(f);
            int size = draw(flat ? 2 : 4);
            boolean last = i == bundles - 1;
            int issued = 0;
            for (int j = 0; j < size; j++) {
                issued += plain(f, filled);
            }
            if (last || draw(flat ? 2 : 3) == 0) {
                filled = control(f, last, bundles, filled);
            }
            filled = Math.min(8, filled + issued);
        }
    }

    private void bundle(int f) {
        both("bundle", () -> machine.bundle(f), () -> model.bundle(f));
    }

    /** A position that is likely to be there, if the program is to be a good one. */
    private int position(int filled) {
        if (careful && filled > 0 && draw(60) != 0) {
            return draw(filled);
        }
        return draw(30) == 0 ? draw(12) - 2 : draw(8);
    }

    private int plain(int f, int filled) {
        int code = flat && draw(30) != 0 ? 9 : draw(11);
        boolean quick = careful && draw(3) != 0;
        if (quick && code >= 5 && code <= 7 || careful && filled == 0) {
            code = 0;
        }
        int a = code == 0 ? draw(40) - 3 : code == 10 ? draw(3) : position(filled);
        int b = code == 9 ? draw(3) : position(filled);
        operation(f, code, a, b, draw(1 << 30));
        return code == 8 || code == 9 ? 0 : 1;
    }

    private int control(int f, boolean last, int bundles, int filled) {
        int code = 11 + draw(flat ? 2 : draw(4) == 0 ? 4 : 3);
        if (last && draw(6) != 0) {
            code = 14;
        }
        int a = code == 13 ? draw(functions + (draw(30) == 0 ? 1 : 0)) : position(filled);
        int b = draw(40) == 0 ? draw(26) : draw(Math.max(1, bundles));
        int length = code == 14 ? results[f] : draw(9);
        if (code == 13 && a < functions) {
            length = arguments[a];
        }
        if (careful && (code == 11 || code == 12) && (flat || draw(2) == 0)) {
            length = Math.min(8, filled);
        }
        int list = draw(50) == 0 ? draw(1 << 30) * 4 : list(length, filled);
        operation(f, code, a, b, list);
        if (code == 13 && a < functions) {
            return filled + results[a];
        }
        return code == 12 ? length : filled;
    }

    private int list(int length, int filled) {
        int list = 0;
        for (int i = 0; i < length && i < 8; i++) {
            list |= (position(filled) + 1 & 15) << 4 * i;
        }
        return list;
    }

    private void operation(int f, int code, int a, int b, int list) {
        both("operation", () -> machine.operation(f, code, a, b, list),
                () -> model.operation(f, code, a, b, list));
    }

    private void check(int f) {
        Object fault = both("check", () -> machine.check(f), () -> model.check(f));
        if (fault instanceof Integer) {
            faults[(Integer) fault]++;
            lookedAgain += model.checked(2) > model.checked(1) ? 1 : 0;
        }
        for (int what = 0; what <= 2; what++) {
            checked(what);
        }
        int bundles = f < 0 ? 0 : model.count(8 + f);
        for (int bundle = 0; bundle < bundles; bundle++) {
            checked(8 + bundle);
            checked(32 + bundle);
            checked(56 + bundle);
        }
        checked(draw(90) - 5);
    }

    private void checked(int what) {
        both("checked " + what, () -> machine.checked(what), () -> model.checked(what));
    }

    private void begin(int f) {
        long first = draw(6) == 0 ? seed : draw(20) - 2;
        long second = draw(6) == 0 ? -seed : draw(20) - 2;
        Object threw = both("start", () -> {
            machine.start(f, first, second);
            return "begun";
        }, () -> {
            model.start(f, first, second);
            return "begun";
        });
        started += threw.equals("begun") ? 1 : 0;
        if (!threw.equals("begun") || draw(4) == 0) {
            both("force", () -> {
                machine.force(f, second, first);
                return "begun";
            }, () -> {
                model.force(f, second, first);
                return "begun";
            });
        }
        checked(1);
        reads(3);
    }

    private void runs() {
        for (int i = 0; i < 8; i++) {
            int cycles = i == 7 ? 60 : draw(20) == 0 ? draw(40) - 1 : 1 + draw(4);
            Object answer = both("run", () -> machine.run(cycles), () -> model.run(cycles));
            if (answer instanceof Integer) {
                ends[(Integer) answer]++;
            }
            reads(10);
            if (draw(9) == 0) {
                int cell = draw(18) - 1;
                long value = draw(20);
                both("setCell", () -> machine.setCell(cell, value),
                        () -> model.setCell(cell, value));
            }
            if (draw(9) == 0) {
                grow(draw(functions), answer);
            }
        }
        if (model.state(0) >= 0) {
            traps[model.state(0)]++;
        }
        deep += model.state(6) > 1 ? 1 : 0;
    }

    /** Any call that a program is made by, behind a run() that gave this answer. */
    private void grow(int f, Object answer) {
        switch (draw(6)) {
            case 0 -> function(draw(5), draw(4));
            case 1, 2 -> bundle(f);
            case 3 -> control(f, false, model.count(8 + f), 2);
            case 4 -> check(f);
            default -> plain(f, 2);
        }
        grown += answer.equals(0) ? 1 : 0;
    }

    private void reads(int count) {
        for (int i = 0; i < count; i++) {
            read(draw(12), draw(15) == 0 ? draw(22) - 2 : draw(8));
        }
    }

    private void read(int kind, int at) {
        switch (kind) {
            case 0, 1, 2, 3 -> both("state " + at, () -> machine.state(at), () -> model.state(at));
            case 4, 5, 6 -> both("belt " + at, () -> machine.belt(at), () -> model.belt(at));
            case 7 -> both("result " + at, () -> machine.result(at), () -> model.result(at));
            case 8 -> both("scratch " + at, () -> machine.scratch(at), () -> model.scratch(at));
            case 9 -> both("count " + at, () -> machine.count(at), () -> model.count(at));
            default -> both("cell " + at, () -> machine.cell(at), () -> model.cell(at));
        }
    }
}
