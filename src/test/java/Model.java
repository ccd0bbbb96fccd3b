import java.util.ArrayDeque;
import java.util.ArrayList;
import java.util.Deque;
import java.util.List;
import java.util.NoSuchElementException;
import java.util.Set;
import java.util.SortedMap;
import java.util.TreeMap;
import java.util.TreeSet;

/**
 * The document once more, with the library's collections and written apart from the program: what
 * both answer alike is hardly a slip of one. It has the names of the program's methods.
 */
final class Model {
    record Operation(int code, int a, int b, List<Integer> list) {
        /** The positions it names, in the order in which they are looked at. */
        List<Integer> named() {
            List<Integer> named = new ArrayList<>();
            if (Set.of(1, 2, 3, 4, 5, 6, 7, 8, 9, 11).contains(code)) {
                named.add(a);
            }
            if (Set.of(1, 2, 3, 4, 5, 6, 8).contains(code)) {
                named.add(b);
            }
            if (code >= 11) {
                named.addAll(list);
            }
            return named;
        }

        int latency() {
            return switch (code) {
                case 6 -> 4;
                case 5 -> 3;
                case 7 -> 2;
                case 0, 1, 2, 3, 4, 10 -> 1;
                default -> 0;
            };
        }
    }

    static final class Function {
        int arguments;
        int results;
        final List<List<Operation>> bundles = new ArrayList<>();
    }

    record State(int filled, List<Integer> flights, Set<Integer> spilled) {
    }

    /** The bundle it was found in, and its number. */
    record Fault(int bundle, int fault) {
    }

    record Flight(long value, int lastCycle) {
    }

    static final class Frame {
        int function;
        int bundle;
        int cycle;
        List<Long> belt = new ArrayList<>();
        final SortedMap<Integer, Long> scratch = new TreeMap<>();
        List<Flight> flights = new ArrayList<>();
    }

    private final List<Function> functions = new ArrayList<>();
    private final long[] memory = new long[16];
    private SortedMap<Integer, State> states;
    private Fault fault;
    private int looks;
    private Deque<Frame> frames;
    private int trap;
    private int cycles;
    private int most;
    private List<Long> results;

    static List<Integer> positions(int list) {
        List<Integer> positions = new ArrayList<>();
        long rest = list & 0xFFFFFFFFL;
        while (rest % 16 != 0) {
            positions.add((int) (rest % 16) - 1);
            rest /= 16;
        }
        return positions;
    }

    private static void argument(boolean fine) {
        if (!fine) {
            throw new IllegalArgumentException();
        }
    }

    private static void state(boolean fine) {
        if (!fine) {
            throw new IllegalStateException();
        }
    }

    private static void element(boolean fine) {
        if (!fine) {
            throw new NoSuchElementException();
        }
    }

    private Function the(int function) {
        argument(function >= 0 && function < functions.size());
        return functions.get(function);
    }

    int function(int arguments, int results) {
        argument(arguments >= 0 && arguments <= 4 && results >= 0 && results <= 3);
        state(functions.size() < 8);
        Function made = new Function();
        made.arguments = arguments;
        made.results = results;
        functions.add(made);
        return functions.size() - 1;
    }

    int bundle(int function) {
        Function of = the(function);
        state(of.bundles.size() < 24);
        of.bundles.add(new ArrayList<>());
        return of.bundles.size() - 1;
    }

    int operation(int function, int code, int a, int b, int list) {
        Function of = the(function);
        argument(code >= 0 && code <= 14);
        Operation made = new Operation(code, a, b, positions(list));
        for (int position : made.named()) {
            argument(position >= 0 && position <= 7);
        }
        argument(code != 9 || b >= 0 && b <= 7);
        argument(code != 10 || a >= 0 && a <= 7);
        argument(code != 11 && code != 12 || b >= 0 && b <= 23);
        argument(code != 13 || made.list.size() == the(a).arguments);
        argument(code != 14 || made.list.size() == of.results);
        state(!of.bundles.isEmpty());
        List<Operation> last = of.bundles.get(of.bundles.size() - 1);
        state(last.size() < 4);
        state(last.isEmpty() || last.get(last.size() - 1).code < 11);
        last.add(made);
        return last.size();
    }

    int check(int function) {
        Function of = the(function);
        SortedMap<Integer, State> found = new TreeMap<>();
        int[] count = new int[1];
        fault = examine(of, found, count);
        states = found;
        looks = count[0];
        return fault == null ? 0 : fault.fault;
    }

    private Fault examine(Function of, SortedMap<Integer, State> found, int[] count) {
        if (of.bundles.isEmpty()) {
            return new Fault(0, 6);
        }
        TreeSet<Integer> due = new TreeSet<>(List.of(0));
        found.put(0, new State(of.arguments, List.of(), Set.of()));
        while (!due.isEmpty()) {
            int bundle = due.pollFirst();
            count[0]++;
            Fault here = look(of, bundle, found, due);
            if (here != null) {
                return here;
            }
        }
        return null;
    }

    private Fault look(Function of, int bundle, SortedMap<Integer, State> found, Set<Integer> due) {
        State at = found.get(bundle);
        List<Integer> flights = new ArrayList<>(at.flights);
        Set<Integer> spilled = new TreeSet<>(at.spilled);
        Operation last = new Operation(0, 0, 0, List.of());
        for (Operation o : of.bundles.get(bundle)) {
            last = o;
            if (o.named().stream().anyMatch(position -> position >= at.filled)) {
                return new Fault(bundle, 1);
            }
            if (o.code == 10 && !spilled.contains(o.a)) {
                return new Fault(bundle, 5);
            }
            if (o.code == 14 && !flights.isEmpty()) {
                return new Fault(bundle, 7);
            }
            if (o.code == 9) {
                spilled.add(o.b);
            }
            if (o.latency() > 0) {
                flights.add(o.latency());
            }
        }
        int landed = (int) flights.stream().filter(left -> left == 1).count();
        List<Integer> on = flights.stream().map(left -> left - 1).filter(left -> left > 0).toList();
        Fault here = null;
        if (last.code != 12 && last.code != 14) {
            int called = last.code == 13 ? functions.get(last.a).results : 0;
            State next = new State(Math.min(8, at.filled + landed + called), on, spilled);
            here = get(of, bundle, bundle + 1, next, found, due);
        }
        if (here == null && (last.code == 11 || last.code == 12)) {
            State next = new State(Math.min(8, last.list.size() + landed), on, spilled);
            here = get(of, bundle, last.b, next, found, due);
        }
        return here;
    }

    private static Fault get(Function of, int from, int to, State next,
            SortedMap<Integer, State> found, Set<Integer> due) {
        if (to >= of.bundles.size()) {
            return new Fault(from, 6);
        }
        State has = found.get(to);
        if (has == null) {
            found.put(to, next);
            due.add(to);
            return null;
        }
        if (has.filled != next.filled || !has.flights.equals(next.flights)) {
            return new Fault(to, 8);
        }
        Set<Integer> both = new TreeSet<>(has.spilled);
        both.retainAll(next.spilled);
        if (both.size() < has.spilled.size()) {
            found.put(to, new State(has.filled, has.flights, both));
            due.add(to);
        }
        return null;
    }

    int checked(int what) {
        if (states == null) {
            return -1;
        }
        if (what == 0) {
            return fault == null ? -1 : fault.bundle;
        }
        if (what == 1 || what == 2) {
            return what == 1 ? states.size() : looks;
        }
        if (what >= 8 && what < 32 && states.containsKey(what - 8)) {
            return states.get(what - 8).filled;
        }
        if (what >= 32 && what < 56 && states.containsKey(what - 32)) {
            return states.get(what - 32).flights.size();
        }
        if (what >= 56 && what < 80 && states.containsKey(what - 56)) {
            return states.get(what - 56).spilled.stream().mapToInt(cell -> 1 << cell).sum();
        }
        return -1;
    }

    private void reach(int function, Set<Integer> reached) {
        if (!reached.add(function)) {
            return;
        }
        for (List<Operation> bundle : functions.get(function).bundles) {
            for (Operation o : bundle) {
                if (o.code == 13) {
                    reach(o.a, reached);
                }
            }
        }
    }

    void start(int function, long first, long second) {
        the(function);
        Set<Integer> reached = new TreeSet<>();
        reach(function, reached);
        for (int f : reached) {
            state(examine(functions.get(f), new TreeMap<>(), new int[1]) == null);
        }
        force(function, first, second);
    }

    void force(int function, long first, long second) {
        int count = the(function).arguments;
        frames = new ArrayDeque<>();
        trap = 0;
        cycles = 0;
        most = 0;
        results = null;
        enter(function, List.of(first, second, 0L, 0L).subList(0, count));
    }

    private void enter(int function, List<Long> arguments) {
        Frame frame = new Frame();
        frame.function = function;
        frame.belt = new ArrayList<>(arguments);
        frames.push(frame);
        most = Math.max(most, frames.size());
    }

    int run(int count) {
        argument(count >= 1 && count <= 10000);
        state(frames != null);
        for (int i = 0; i < count && trap == 0 && results == null; i++) {
            cycles++;
            trap = cycle(frames.peek());
        }
        return trap != 0 ? 2 : results != null ? 1 : 0;
    }

    private int cycle(Frame frame) {
        Function of = functions.get(frame.function);
        if (frame.bundle >= of.bundles.size()) {
            return 6;
        }
        frame.cycle++;
        int next = frame.bundle + 1;
        List<Long> belt = frame.belt;
        for (Operation o : of.bundles.get(frame.bundle)) {
            if (o.named().stream().anyMatch(position -> position >= frame.belt.size())) {
                return 1;
            }
            List<Long> listed = o.code < 11 ? List.of() : o.list.stream().map(belt::get).toList();
            if (o.code < 11) {
                int seen = work(frame, o);
                if (seen != 0) {
                    return seen;
                }
            } else if (o.code == 12 || o.code == 11 && belt.get(o.a) != 0) {
                frame.belt = new ArrayList<>(listed);
                next = o.b;
            } else if (o.code == 13) {
                if (frames.size() == 16) {
                    return 4;
                }
                enter(o.a, listed);
                return 0;
            } else if (o.code == 14) {
                return giveBack(frame, listed);
            }
        }
        end(frame, List.of(), next);
        return 0;
    }

    private int giveBack(Frame frame, List<Long> listed) {
        if (!frame.flights.isEmpty()) {
            return 7;
        }
        frames.pop();
        if (frames.isEmpty()) {
            results = listed;
        } else {
            end(frames.peek(), listed, frames.peek().bundle + 1);
        }
        return 0;
    }

    private static void end(Frame frame, List<Long> given, int next) {
        List<Flight> on = new ArrayList<>();
        for (Flight flight : frame.flights) {
            if (flight.lastCycle == frame.cycle) {
                frame.belt.add(0, flight.value);
            } else {
                on.add(flight);
            }
        }
        frame.flights = on;
        frame.belt.addAll(0, given);
        while (frame.belt.size() > 8) {
            frame.belt.remove(8);
        }
        frame.bundle = next;
    }

    private int work(Frame frame, Operation o) {
        List<Long> taken = o.named().stream().map(frame.belt::get).toList();
        long a = taken.size() > 0 ? taken.get(0) : 0;
        long b = taken.size() > 1 ? taken.get(1) : 0;
        boolean isCell = a >= 0 && a <= 15;
        if (o.code == 6 && b == 0) {
            return 2;
        }
        if ((o.code == 7 || o.code == 8) && !isCell) {
            return 3;
        }
        if (o.code == 10 && !frame.scratch.containsKey(o.a)) {
            return 5;
        }
        if (o.code == 8) {
            memory[(int) a] = b;
        } else if (o.code == 9) {
            frame.scratch.put(o.b, a);
        } else {
            long value = switch (o.code) {
                case 0 -> o.a;
                case 1 -> a + b;
                case 2 -> a - b;
                case 3 -> a < b ? 1 : 0;
                case 4 -> a == b ? 1 : 0;
                case 5 -> a * b;
                case 6 -> a / b;
                case 7 -> memory[(int) a];
                default -> frame.scratch.get(o.a);
            };
            frame.flights.add(new Flight(value, frame.cycle + o.latency() - 1));
        }
        return 0;
    }

    int state(int what) {
        if (frames == null) {
            return -1;
        }
        Frame top = frames.peek();
        return switch (what) {
            case 0 -> trap;
            case 1 -> top == null ? -1 : top.function;
            case 2 -> top == null ? -1 : top.bundle;
            case 3 -> frames.size();
            case 4 -> top == null ? 0 : top.flights.size();
            case 5 -> cycles;
            case 6 -> most;
            default -> -1;
        };
    }

    private Frame top() {
        element(frames != null && !frames.isEmpty());
        return frames.peek();
    }

    long belt(int position) {
        element(position >= 0 && position < top().belt.size());
        return top().belt.get(position);
    }

    long result(int i) {
        element(results != null && i >= 0 && i < results.size());
        return results.get(i);
    }

    long scratch(int cell) {
        element(top().scratch.containsKey(cell));
        return top().scratch.get(cell);
    }

    long cell(int cell) {
        if (cell < 0 || cell > 15) {
            throw new IndexOutOfBoundsException();
        }
        return memory[cell];
    }

    boolean setCell(int cell, long value) {
        if (cell < 0 || cell > 15) {
            return false;
        }
        memory[cell] = value;
        return true;
    }

    int count(int what) {
        if (what == 0) {
            return functions.size();
        }
        boolean isFunction = what >= 8 && what - 8 < functions.size();
        return isFunction ? functions.get(what - 8).bundles.size() : -1;
    }
}
