import java.util.NoSuchElementException;

/** Compares answers with those that are due, and ends the test with 1 if one was another. */
final class Due {
    /** A call that may throw. */
    interface Call {
        void make();
    }

    private String heading = "";
    private String sentence = "";
    private int sentences;
    private int wrong;
    private int seen;

    /** The part of the document where the sentences that follow stand. */
    void under(String part) {
        heading = part;
    }

    /** A sentence of the document, word for word, with the test of its own that it has. */
    void sentence(String text, Call test) {
        sentence = heading + ", \"" + text + "\": ";
        sentences++;
        int before = seen;
        try {
            test.make();
        } catch (RuntimeException e) {
            fail("the test ended with " + e);
        }
        if (seen == before) {
            fail("nothing was compared");
        }
        sentence = "";
    }

    private void fail(String what) {
        wrong++;
        System.out.println(sentence + what);
    }

    void same(String what, long got, long want) {
        seen++;
        if (got != want) {
            fail(what + " answered " + got + ", due is " + want);
        }
    }

    void isTrue(String what, boolean got) {
        same(what, got ? 1 : 0, 1);
    }

    /** The exact class counts: a library exception that extends a promised one is none. */
    private void raises(String what, Class<? extends RuntimeException> want, Call call) {
        seen++;
        Class<?> got = null;
        try {
            call.make();
        } catch (RuntimeException e) {
            got = e.getClass();
        }
        if (got != want) {
            fail(what + " threw " + got + ", due is " + want);
        }
    }

    void illegalArgument(String what, Call call) {
        raises(what, IllegalArgumentException.class, call);
    }

    void illegalState(String what, Call call) {
        raises(what, IllegalStateException.class, call);
    }

    void noElement(String what, Call call) {
        raises(what, NoSuchElementException.class, call);
    }

    void outOfBounds(String what, Call call) {
        raises(what, IndexOutOfBoundsException.class, call);
    }

    /** The belt holds these values, and is EMPTY behind them. */
    void belt(String what, BeltMachine m, long... values) {
        for (int i = 0; i < values.length; i++) {
            same(what + ": position " + i, m.belt(i), values[i]);
        }
        noElement(what + ": position " + values.length, () -> m.belt(values.length));
    }

    /** The run goes on till a trap, which ends it in the cycle of this number. */
    void trap(String what, BeltMachine m, int trap, int cycles) {
        same(what + ": run", m.run(10000), 2);
        same(what + ": trap", m.state(0), trap);
        same(what + ": cycles", m.state(5), cycles);
    }

    /** The run goes on till a RETURN, in the cycle of this number. */
    void over(String what, BeltMachine m, int cycles) {
        same(what + ": run", m.run(10000), 1);
        same(what + ": cycles", m.state(5), cycles);
    }

    /** The fault of function 0, and the bundle it is told of. */
    void fault(String what, BeltMachine m, int fault, int bundle) {
        same(what + ": fault", m.check(0), fault);
        same(what + ": bundle of the fault", m.checked(0), bundle);
    }

    void sound(String what, BeltMachine m) {
        fault(what, m, 0, -1);
    }

    /** What the latest check tells of a bundle. */
    void state(String what, BeltMachine m, int bundle, int filled, int flights, int spilled) {
        same(what + ": positions of " + bundle, m.checked(8 + bundle), filled);
        same(what + ": flights of " + bundle, m.checked(32 + bundle), flights);
        same(what + ": scratch cells of " + bundle, m.checked(56 + bundle), spilled);
    }

    void noState(String what, BeltMachine m, int bundle) {
        state(what, m, bundle, -1, -1, -1);
    }

    /** How many bundles have a state, and how many looks there were. */
    void looks(String what, BeltMachine m, int states, int looks) {
        same(what + ": bundles with a state", m.checked(1), states);
        same(what + ": looks", m.checked(2), looks);
    }

    void end() {
        System.out.println((sentences > 0 ? sentences + " sentences, " : "") + seen + " answers, "
                + wrong + " not as due");
        if (wrong != 0 || seen == 0) {
            System.exit(1);
        }
    }
}
