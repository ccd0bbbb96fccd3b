import java.util.NoSuchElementException;

/** Compares answers with those that are due, and ends the test with 1 if one was another. */
final class Due {
    /** A call that may throw. */
    interface Call {
        void make();
    }

    private int wrong;
    private int seen;

    void same(String what, long got, long want) {
        seen++;
        if (got != want) {
            wrong++;
            System.out.println(what + " answered " + got + ", due is " + want);
        }
    }

    void isTrue(String what, boolean got) {
        same(what, got ? 1 : 0, 1);
    }

    /** The exact class counts: a library exception that extends a promised one is none. */
    void raises(String what, Class<? extends RuntimeException> want, Call call) {
        seen++;
        Class<?> got = null;
        try {
            call.make();
        } catch (RuntimeException e) {
            got = e.getClass();
        }
        if (got != want) {
            wrong++;
            System.out.println(what + " threw " + got + ", due is " + want);
        }
    }

    void illegalArgument(String what, Call call) {
        raises(what, IllegalArgumentException.class, call);
    }

    void illegalState(String what, Call call) {
        raises(what, IllegalStateException.class, call);
    }

    void noElement(String what, Call call) {
        raises(what, NoSuchElementException.class, call);
    }

    void outOfBounds(String what, Call call) {
        raises(what, IndexOutOfBoundsException.class, call);
    }

    void end() {
        System.out.println(seen + " answers, " + wrong + " not as due");
        if (wrong != 0 || seen == 0) {
            System.exit(1);
        }
    }
}
