import java.util.NoSuchElementException;

/**
 * A machine whose operations name their operands by how new they are, and a checker that tells,
 * ahead of any run, whether a position could ever be empty.
 */
public final class BeltMachine {
    public static final int NONE = -1;

    private static final int FUNCTIONS = 8;
    private static final int MOST_ARGUMENTS = 4;
    private static final int MOST_RESULTS = 3;
    private static final int BUNDLES = 24;
    private static final int WIDTH = 4;
    private static final int POSITIONS = 8;
    private static final int SCRATCH_CELLS = 8;
    private static final int CELLS = 16;
    private static final int FRAMES = 16;
    private static final int MOST_CYCLES = 10000;

    // A DIVIDE flies for 4 cycles, and a cycle issues WIDTH operations: more can't be in flight.
    private static final int FLIGHTS = 16;

    // The places of a list, and of the flights that the checker keeps in one long.
    private static final int PLACE_BITS = 4;
    private static final int PLACE_MASK = 15;

    private static final int CONSTANT = 0;
    private static final int ADD = 1;
    private static final int SUBTRACT = 2;
    private static final int LESS = 3;
    private static final int SAME = 4;
    private static final int MULTIPLY = 5;
    private static final int DIVIDE = 6;
    private static final int LOAD = 7;
    private static final int STORE = 8;
    private static final int SPILL = 9;
    private static final int FILL = 10;
    private static final int BRANCH = 11;
    private static final int JUMP = 12;
    private static final int CALL = 13;
    private static final int RETURN = 14;

    // By the code of the operation; 0 of one that has no result in flight.
    private static final int[] LATENCY = {1, 1, 1, 1, 1, 3, 4, 2, 0, 0, 1, 0, 0, 0, 0};

    // Traps of a run and faults of the checker share their numbers.
    private static final int SOUND = 0;
    private static final int EMPTY_POSITION = 1;
    private static final int DIVIDED_BY_ZERO = 2;
    private static final int NO_SUCH_CELL = 3;
    private static final int TOO_MANY_FRAMES = 4;
    private static final int NOT_SPILLED = 5;
    private static final int NO_SUCH_BUNDLE = 6;
    private static final int STILL_IN_FLIGHT = 7;
    private static final int OTHER_STATE = 8;

    private static final int GOES_ON = 0;
    private static final int RETURNED = 1;
    private static final int TRAPPED = 2;

    // Where checked() and count() begin to tell of single bundles and functions.
    private static final int FILLED_FROM = 8;
    private static final int FLIGHTS_FROM = FILLED_FROM + BUNDLES;
    private static final int SPILLED_FROM = FLIGHTS_FROM + BUNDLES;
    private static final int COUNTS_FROM = 8;

    private final Code[] codes = new Code[FUNCTIONS];
    private int functions;
    private final Checker checker = new Checker();
    private boolean hasChecked;
    // start() looks at functions too, but what checked() tells is of check() alone.
    private final Checker startChecker = new Checker();
    private final Machine machine = new Machine();

    public BeltMachine() {
        for (int i = 0; i < FUNCTIONS; i++) {
            codes[i] = new Code();
        }
    }

    public int function(int arguments, int results)
            throws IllegalArgumentException, IllegalStateException {
        if (!within(arguments, MOST_ARGUMENTS + 1) || !within(results, MOST_RESULTS + 1)) {
            throw new IllegalArgumentException("so many arguments or results can't be");
        }
        if (functions >= FUNCTIONS) {
            throw new IllegalStateException("there are 8 functions");
        }
        codes[functions].arguments = arguments;
        codes[functions].results = results;
        functions++;
        return functions - 1;
    }

    public int bundle(int function) throws IllegalArgumentException, IllegalStateException {
        if (!within(function, functions)) {
            throw new IllegalArgumentException("no such function");
        }
        Code code = codes[function];
        if (code.bundles >= BUNDLES) {
            throw new IllegalStateException("the function has 24 bundles");
        }
        code.bundles++;
        return code.bundles - 1;
    }

    public int operation(int function, int code, int a, int b, int list)
            throws IllegalArgumentException, IllegalStateException {
        if (!within(function, functions) || !fits(codes[function], code, a, b, list)) {
            throw new IllegalArgumentException("no such function or operation");
        }
        if (!codes[function].hasRoom()) {
            throw new IllegalStateException("no bundle that takes an operation");
        }
        return codes[function].append(code, a, b, list);
    }

    public int check(int function) throws IllegalArgumentException {
        if (!within(function, functions)) {
            throw new IllegalArgumentException("no such function");
        }
        hasChecked = true;
        return checker.examine(codes[function], codes);
    }

    public int checked(int what) {
        return hasChecked ? checker.tell(what) : NONE;
    }

    public void start(int function, long first, long second)
            throws IllegalArgumentException, IllegalStateException {
        if (!within(function, functions)) {
            throw new IllegalArgumentException("no such function");
        }
        if (!soundWithCallees(function)) {
            throw new IllegalStateException("a function is not sound");
        }
        machine.begin(function, codes[function].arguments, first, second);
    }

    public void force(int function, long first, long second) throws IllegalArgumentException {
        if (!within(function, functions)) {
            throw new IllegalArgumentException("no such function");
        }
        machine.begin(function, codes[function].arguments, first, second);
    }

    public int run(int cycles) throws IllegalArgumentException, IllegalStateException {
        if (cycles < 1 || cycles > MOST_CYCLES) {
            throw new IllegalArgumentException("cycles are 1 to 10000");
        }
        if (!machine.begun) {
            throw new IllegalStateException("there was no start");
        }
        return machine.go(cycles, codes);
    }

    public int state(int what) {
        return machine.begun ? machine.tell(what) : NONE;
    }

    public long belt(int position) throws NoSuchElementException {
        if (machine.depth == 0 || !within(position, machine.top().filled)) {
            throw new NoSuchElementException("no value at this position");
        }
        return machine.top().values[position];
    }

    public long result(int i) throws NoSuchElementException {
        if (!within(i, machine.resultCount)) {
            throw new NoSuchElementException("no such result");
        }
        return machine.results[i];
    }

    public long scratch(int cell) throws NoSuchElementException {
        if (machine.depth == 0 || !within(cell, SCRATCH_CELLS) || !machine.top().isSpilled(cell)) {
            throw new NoSuchElementException("nothing was spilled there");
        }
        return machine.top().kept[cell];
    }

    public long cell(int cell) throws IndexOutOfBoundsException {
        if (!within(cell, CELLS)) {
            throw new IndexOutOfBoundsException("no such cell");
        }
        return machine.memory[cell];
    }

    public boolean setCell(int cell, long value) {
        if (!within(cell, CELLS)) {
            return false;
        }
        machine.memory[cell] = value;
        return true;
    }

    public int count(int what) {
        if (what == 0) {
            return functions;
        }
        // Compared ahead of the subtraction, which would wrap for the least numbers.
        if (what < COUNTS_FROM || what >= COUNTS_FROM + functions) {
            return NONE;
        }
        return codes[what - COUNTS_FROM].bundles;
    }

    private static boolean within(int i, int bound) {
        return i >= 0 && i < bound;
    }

    private boolean fits(Code code, int kind, int a, int b, int list) {
        switch (kind) {
            case CONSTANT:
                return true;
            case ADD:
            case SUBTRACT:
            case LESS:
            case SAME:
            case MULTIPLY:
            case DIVIDE:
            case STORE:
                return within(a, POSITIONS) && within(b, POSITIONS);
            case LOAD:
                return within(a, POSITIONS);
            case SPILL:
                return within(a, POSITIONS) && within(b, SCRATCH_CELLS);
            case FILL:
                return within(a, SCRATCH_CELLS);
            case BRANCH:
                return within(a, POSITIONS) && within(b, BUNDLES) && Lists.isProper(list);
            case JUMP:
                return within(b, BUNDLES) && Lists.isProper(list);
            case CALL:
                return within(a, functions) && Lists.isProper(list)
                        && Lists.length(list) == codes[a].arguments;
            case RETURN:
                return Lists.isProper(list) && Lists.length(list) == code.results;
            default:
                return false;
        }
    }

    private boolean soundWithCallees(int function) {
        int reached = 1 << function;
        int seen = 0;
        // Each round sees one more function, or there is none left that was not seen.
        for (int round = 0; round < FUNCTIONS && seen != reached; round++) {
            int next = leastOf(reached & ~seen);
            if (startChecker.examine(codes[next], codes) != SOUND) {
                return false;
            }
            seen |= 1 << next;
            reached |= codes[next].callees;
        }
        return true;
    }

    private static int leastOf(int functionBits) {
        for (int i = 0; i < FUNCTIONS; i++) {
            if ((functionBits >> i & 1) != 0) {
                return i;
            }
        }
        return 0;
    }

    /** Lists of positions: position + 1 in four bits each, the first one lowest, up to a 0. */
    private static final class Lists {
        static final int MOST = 8;

        /** 0 where the list ends, else one more than the position. */
        static int place(int list, int i) {
            return list >>> i * PLACE_BITS & PLACE_MASK;
        }

        static int length(int list) {
            for (int i = 0; i < MOST; i++) {
                if (place(list, i) == 0) {
                    return i;
                }
            }
            return MOST;
        }

        /** How many positions must be filled so that none of the list is empty. */
        static int reach(int list) {
            int length = length(list);
            int reach = 0;
            for (int i = 0; i < length; i++) {
                reach = Math.max(reach, place(list, i));
            }
            return reach;
        }

        static boolean isProper(int list) {
            return reach(list) <= POSITIONS;
        }
    }

    /** The code of one function: bundle i has the places i * WIDTH and on of the rows. */
    private static final class Code {
        int arguments;
        int results;
        int bundles;
        int callees;
        final int[] sizes = new int[BUNDLES];
        final int[] kinds = new int[BUNDLES * WIDTH];
        final int[] as = new int[BUNDLES * WIDTH];
        final int[] bs = new int[BUNDLES * WIDTH];
        final int[] lists = new int[BUNDLES * WIDTH];
        // How many positions must be filled for the operation: the filled ones are always the
        // first, so this one number tells whether any position that it names is empty.
        final int[] reaches = new int[BUNDLES * WIDTH];

        Code() {
        }

        boolean hasRoom() {
            return bundles > 0 && sizes[bundles - 1] < WIDTH && control(bundles - 1) == NONE;
        }

        int append(int kind, int a, int b, int list) {
            int at = end(bundles - 1);
            kinds[at] = kind;
            as[at] = a;
            bs[at] = b;
            lists[at] = list;
            reaches[at] = reachOf(kind, a, b, list);
            if (kind == CALL) {
                callees |= 1 << a;
            }
            sizes[bundles - 1]++;
            return sizes[bundles - 1];
        }

        int begin(int bundle) {
            return bundle * WIDTH;
        }

        int end(int bundle) {
            return bundle * WIDTH + sizes[bundle];
        }

        /** The place of the bundle's CONTROL, which is its last operation; NONE without. */
        int control(int bundle) {
            int last = end(bundle) - 1;
            return sizes[bundle] > 0 && kinds[last] >= BRANCH ? last : NONE;
        }

        private static int reachOf(int kind, int a, int b, int list) {
            boolean namesA = kind >= ADD && kind <= SPILL || kind == BRANCH;
            boolean namesB = kind >= ADD && kind <= DIVIDE || kind == STORE;
            int reach = kind >= BRANCH ? Lists.reach(list) : 0;
            if (namesA) {
                reach = Math.max(reach, a + 1);
            }
            if (namesB) {
                reach = Math.max(reach, b + 1);
            }
            return reach;
        }
    }

    /** The states of the bundles of one function, and the first fault that was found there. */
    private static final class Checker {
        // Each look but the first of a bundle comes of a scratch cell that it lost.
        private static final int MOST_LOOKS = BUNDLES * (SCRATCH_CELLS + 1);

        // The state of each bundle; filled is NONE of one that has no state. The flights are
        // their cycles left in four bits each, the first one lowest, so that == compares them.
        private final int[] filled = new int[BUNDLES];
        private final long[] flights = new long[BUNDLES];
        private final int[] spilled = new int[BUNDLES];
        private final boolean[] waiting = new boolean[BUNDLES];
        private int fault;
        private int faultBundle;
        private int looks;
        // What the look that goes on has made of its bundle's state.
        private long flying;
        private int kept;

        Checker() {
        }

        int examine(Code code, Code[] codes) {
            clear();
            if (code.bundles == 0) {
                blame(NO_SUCH_BUNDLE, 0);
                return fault;
            }
            filled[0] = code.arguments;
            waiting[0] = true;
            for (int round = 0; round < MOST_LOOKS && fault == SOUND; round++) {
                int bundle = leastWaiting();
                if (bundle == NONE) {
                    break;
                }
                looks++;
                look(code, bundle, codes);
            }
            return fault;
        }

        int tell(int what) {
            if (what == 0) {
                return faultBundle;
            }
            if (what == 1) {
                return stateCount();
            }
            if (what == 2) {
                return looks;
            }
            if (what < FILLED_FROM || what >= SPILLED_FROM + BUNDLES) {
                return NONE;
            }
            return tellOfBundle(what);
        }

        private int tellOfBundle(int what) {
            int bundle = (what - FILLED_FROM) % BUNDLES;
            if (filled[bundle] == NONE) {
                return NONE;
            }
            if (what < FLIGHTS_FROM) {
                return filled[bundle];
            }
            return what < SPILLED_FROM ? flightCount(flights[bundle]) : spilled[bundle];
        }

        private void clear() {
            for (int i = 0; i < BUNDLES; i++) {
                filled[i] = NONE;
                flights[i] = 0;
                spilled[i] = 0;
                waiting[i] = false;
            }
            fault = SOUND;
            faultBundle = NONE;
            looks = 0;
        }

        private void blame(int found, int bundle) {
            fault = found;
            faultBundle = bundle;
        }

        private int leastWaiting() {
            for (int i = 0; i < BUNDLES; i++) {
                if (waiting[i]) {
                    return i;
                }
            }
            return NONE;
        }

        private int stateCount() {
            int count = 0;
            for (int i = 0; i < BUNDLES; i++) {
                if (filled[i] != NONE) {
                    count++;
                }
            }
            return count;
        }

        private void look(Code code, int bundle, Code[] codes) {
            // Taken off first: a bundle that leads to itself may have to be looked at again.
            waiting[bundle] = false;
            flying = flights[bundle];
            kept = spilled[bundle];
            int end = code.end(bundle);
            for (int at = code.begin(bundle); at < end; at++) {
                int found = faultOf(code, at, filled[bundle]);
                if (found != SOUND) {
                    blame(found, bundle);
                    return;
                }
                issue(code, at);
            }
            leave(code, bundle, codes);
        }

        private int faultOf(Code code, int at, int positions) {
            int kind = code.kinds[at];
            if (code.reaches[at] > positions) {
                return EMPTY_POSITION;
            }
            if (kind == FILL && (kept >> code.as[at] & 1) == 0) {
                return NOT_SPILLED;
            }
            if (kind == RETURN && flying != 0) {
                return STILL_IN_FLIGHT;
            }
            return SOUND;
        }

        private void issue(Code code, int at) {
            int kind = code.kinds[at];
            if (kind == SPILL) {
                kept |= 1 << code.bs[at];
            }
            // A latency of 0 adds nothing.
            flying |= (long) LATENCY[kind] << flightCount(flying) * PLACE_BITS;
        }

        private void leave(Code code, int bundle, Code[] codes) {
            int control = code.control(bundle);
            // Without CONTROL any other kind will do: the next bundle is the one behind.
            int kind = control == NONE ? CONSTANT : code.kinds[control];
            int before = flightCount(flying);
            flying = withoutLanded(flying);
            int landed = before - flightCount(flying);
            if (kind != JUMP && kind != RETURN) {
                int dropped = kind == CALL ? codes[code.as[control]].results : 0;
                lead(code, bundle, bundle + 1, filled[bundle] + landed + dropped);
            }
            if (fault == SOUND && (kind == BRANCH || kind == JUMP)) {
                int listed = Lists.length(code.lists[control]);
                lead(code, bundle, code.bs[control], listed + landed);
            }
        }

        /** Bundle to gets its state from bundle from; a belt holds no more than its positions. */
        private void lead(Code code, int from, int to, int valuesThere) {
            int positions = Math.min(valuesThere, POSITIONS);
            if (to >= code.bundles) {
                blame(NO_SUCH_BUNDLE, from);
            } else if (filled[to] == NONE) {
                filled[to] = positions;
                flights[to] = flying;
                spilled[to] = kept;
                waiting[to] = true;
            } else if (filled[to] != positions || flights[to] != flying) {
                blame(OTHER_STATE, to);
            } else if ((spilled[to] & kept) != spilled[to]) {
                spilled[to] &= kept;
                waiting[to] = true;
            }
        }

        private static int cyclesLeft(long flights, int i) {
            return (int) (flights >>> i * PLACE_BITS) & PLACE_MASK;
        }

        private static int flightCount(long flights) {
            for (int i = 0; i < FLIGHTS; i++) {
                if (cyclesLeft(flights, i) == 0) {
                    return i;
                }
            }
            return FLIGHTS;
        }

        /** The flights with a cycle less each, without those that had no more than this one. */
        private static long withoutLanded(long flights) {
            long still = 0;
            int count = 0;
            for (int i = 0; i < FLIGHTS; i++) {
                int left = cyclesLeft(flights, i);
                if (left > 1) {
                    still |= (long) (left - 1) << count * PLACE_BITS;
                    count++;
                }
            }
            return still;
        }
    }

    /** One call of a function: its belt, its scratch cells, and its results in flight. */
    private static final class Frame {
        int function;
        int bundle;
        int filled;
        final long[] values = new long[POSITIONS];
        final long[] kept = new long[SCRATCH_CELLS];
        int flights;
        private int spilled;
        private final long[] flying = new long[FLIGHTS];
        private final int[] cyclesLeft = new int[FLIGHTS];

        Frame() {
        }

        void enter(int of, long[] arguments, int count) {
            function = of;
            bundle = 0;
            spilled = 0;
            flights = 0;
            keep(arguments, count);
        }

        void keep(long[] listed, int count) {
            System.arraycopy(listed, 0, values, 0, count);
            filled = count;
        }

        void drop(long value) {
            if (filled < POSITIONS) {
                filled++;
            }
            for (int i = filled - 1; i > 0; i--) {
                values[i] = values[i - 1];
            }
            values[0] = value;
        }

        boolean isSpilled(int cell) {
            return (spilled >> cell & 1) != 0;
        }

        void spill(int cell, long value) {
            kept[cell] = value;
            spilled |= 1 << cell;
        }

        void launch(long value, int latency) {
            if (flights < FLIGHTS) {
                flying[flights] = value;
                cyclesLeft[flights] = latency;
                flights++;
            }
        }

        /** The end of a cycle, but for what a CALL drops behind it. */
        void land() {
            int still = 0;
            for (int i = 0; i < flights; i++) {
                int left = cyclesLeft[i] - 1;
                if (left == 0) {
                    drop(flying[i]);
                } else {
                    flying[still] = flying[i];
                    cyclesLeft[still] = left;
                    still++;
                }
            }
            flights = still;
        }
    }

    /** The memory, and the run: the frames that are open, and how it ended. */
    private static final class Machine {
        final long[] memory = new long[CELLS];
        boolean begun;
        int depth;
        int resultCount;
        final long[] results = new long[MOST_RESULTS];
        private final Frame[] frames = new Frame[FRAMES];
        private int trap;
        private int cycles;
        private int mostFrames;
        // The values of a list, between the belt that they come from and that they go to.
        private final long[] taken = new long[POSITIONS];

        Machine() {
            for (int i = 0; i < FRAMES; i++) {
                frames[i] = new Frame();
            }
        }

        void begin(int function, int arguments, long first, long second) {
            begun = true;
            trap = SOUND;
            cycles = 0;
            resultCount = 0;
            for (int i = 2; i < POSITIONS; i++) {
                taken[i] = 0;
            }
            taken[0] = first;
            taken[1] = second;
            depth = 0;
            mostFrames = 0;
            open(function, arguments);
        }

        /** The frame on top; asked for only while there is one. */
        Frame top() {
            return frames[Math.max(depth - 1, 0)];
        }

        int go(int most, Code[] codes) {
            for (int i = 0; i < most && depth > 0 && trap == SOUND; i++) {
                cycle(codes);
            }
            if (trap != SOUND) {
                return TRAPPED;
            }
            return depth == 0 ? RETURNED : GOES_ON;
        }

        int tell(int what) {
            switch (what) {
                case 0:
                    return trap;
                case 1:
                    return depth == 0 ? NONE : top().function;
                case 2:
                    return depth == 0 ? NONE : top().bundle;
                case 3:
                    return depth;
                case 4:
                    return depth == 0 ? 0 : top().flights;
                case 5:
                    return cycles;
                case 6:
                    return mostFrames;
                default:
                    return NONE;
            }
        }

        /** A new frame on top, with what is taken as its arguments. */
        private void open(int function, int arguments) {
            frames[depth].enter(function, taken, arguments);
            depth++;
            mostFrames = Math.max(mostFrames, depth);
        }

        private void cycle(Code[] codes) {
            Frame top = top();
            Code code = codes[top.function];
            cycles++;
            if (top.bundle >= code.bundles) {
                trap = NO_SUCH_BUNDLE;
                return;
            }
            int control = code.control(top.bundle);
            int end = control == NONE ? code.end(top.bundle) : control;
            for (int at = code.begin(top.bundle); at < end && trap == SOUND; at++) {
                trap = issue(top, code, at);
            }
            if (trap != SOUND) {
                return;
            }
            if (control == NONE) {
                goOn(top);
            } else {
                trap = steer(top, code, control);
            }
        }

        /** An operation that is no CONTROL; its trap, or SOUND. */
        private int issue(Frame top, Code code, int at) {
            if (code.reaches[at] > top.filled) {
                return EMPTY_POSITION;
            }
            int kind = code.kinds[at];
            int a = code.as[at];
            int b = code.bs[at];
            switch (kind) {
                case CONSTANT:
                    top.launch(a, LATENCY[CONSTANT]);
                    return SOUND;
                case DIVIDE:
                    return divide(top, top.values[a], top.values[b]);
                case LOAD:
                    return load(top, top.values[a]);
                case STORE:
                    return store(top.values[a], top.values[b]);
                case SPILL:
                    top.spill(b, top.values[a]);
                    return SOUND;
                case FILL:
                    return fill(top, a);
                default:
                    top.launch(combine(kind, top.values[a], top.values[b]), LATENCY[kind]);
                    return SOUND;
            }
        }

        private static long combine(int kind, long left, long right) {
            switch (kind) {
                case ADD:
                    return left + right;
                case SUBTRACT:
                    return left - right;
                case LESS:
                    return left < right ? 1 : 0;
                case SAME:
                    return left == right ? 1 : 0;
                default:
                    return left * right;
            }
        }

        private static int divide(Frame top, long dividend, long divisor) {
            if (divisor == 0) {
                return DIVIDED_BY_ZERO;
            }
            top.launch(dividend / divisor, LATENCY[DIVIDE]);
            return SOUND;
        }

        private int load(Frame top, long cell) {
            if (cell < 0 || cell >= CELLS) {
                return NO_SUCH_CELL;
            }
            top.launch(memory[(int) cell], LATENCY[LOAD]);
            return SOUND;
        }

        private int store(long cell, long value) {
            if (cell < 0 || cell >= CELLS) {
                return NO_SUCH_CELL;
            }
            memory[(int) cell] = value;
            return SOUND;
        }

        private static int fill(Frame top, int cell) {
            if (!top.isSpilled(cell)) {
                return NOT_SPILLED;
            }
            top.launch(top.kept[cell], LATENCY[FILL]);
            return SOUND;
        }

        /** The CONTROL of a bundle, and the end of its cycle; the trap, or SOUND. */
        private int steer(Frame top, Code code, int at) {
            if (code.reaches[at] > top.filled) {
                return EMPTY_POSITION;
            }
            int listed = take(top, code.lists[at]);
            switch (code.kinds[at]) {
                case BRANCH:
                    if (top.values[code.as[at]] == 0) {
                        goOn(top);
                    } else {
                        jump(top, code.bs[at], listed);
                    }
                    return SOUND;
                case JUMP:
                    jump(top, code.bs[at], listed);
                    return SOUND;
                case CALL:
                    if (depth >= FRAMES) {
                        return TOO_MANY_FRAMES;
                    }
                    open(code.as[at], listed);
                    return SOUND;
                default:
                    if (top.flights > 0) {
                        return STILL_IN_FLIGHT;
                    }
                    giveBack(listed);
                    return SOUND;
            }
        }

        /** Takes the values of a list from the belt, and answers how many they are. */
        private int take(Frame top, int list) {
            for (int i = 0; i < Lists.MOST; i++) {
                int place = Lists.place(list, i);
                if (place == 0) {
                    return i;
                }
                taken[i] = top.values[place - 1];
            }
            return Lists.MOST;
        }

        private static void goOn(Frame top) {
            top.land();
            top.bundle++;
        }

        /** Goes to a bundle, keeping what is taken. */
        private void jump(Frame top, int bundle, int listed) {
            top.keep(taken, listed);
            top.land();
            top.bundle = bundle;
        }

        /** The frame on top is gone, and what is taken are its results. */
        private void giveBack(int listed) {
            depth--;
            if (depth == 0) {
                System.arraycopy(taken, 0, results, 0, listed);
                resultCount = listed;
                return;
            }
            // The caller's cycle, which stood still at its CALL, ends here.
            Frame caller = top();
            caller.land();
            caller.bundle++;
            for (int i = listed - 1; i >= 0; i--) {
                caller.drop(taken[i]);
            }
        }
    }
}
