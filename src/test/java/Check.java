/** Counts the answers of a test that are not the due ones; end() ends it with exit code 1 if there was one. */
final class Check {
    /** A call that may throw. */
    interface Call {
        void run();
    }

    /** A call with a number that may be out of a range. */
    interface Numbered {
        void run(int number);
    }

    private static final int FAR = 1 << 16;

    private int wrong;
    private String about = "";

    /** What all wrong answers from now on are about. */
    void about(String text) {
        about = text;
    }

    int wrong() {
        return wrong;
    }

    void same(String what, long got, long want) {
        if (got != want) {
            tell(what + " answered " + got + ", due is " + want);
        }
    }

    void sameDouble(String what, double got, double want) {
        if (got != want) {
            tell(what + " answered " + got + ", due is " + want);
        }
    }

    void yes(String what, boolean got) {
        if (!got) {
            tell(what + " answered false, due is true");
        }
    }

    void no(String what, boolean got) {
        if (got) {
            tell(what + " answered true, due is false");
        }
    }

    /** The call must throw this very class, by a throw statement of Bothfaces. */
    void fails(String what, Class<? extends RuntimeException> due, Call call) {
        try {
            call.run();
        } catch (RuntimeException e) {
            if (e.getClass() != due) {
                tell(what + " threw " + e.getClass().getName() + ", due is " + due.getName());
            } else if (isFromTheMachine(e)) {
                tell(what + " let the machine throw: " + e);
            }
            return;
        }
        tell(what + " threw nothing, due is " + due.getName());
    }

    void passes(String what, Call call) {
        try {
            call.run();
        } catch (RuntimeException e) {
            tell(what + " threw " + e);
        }
    }

    /**
     * The call must take every number from least to most, and throw this very class for others: those
     * beside the range, the farthest ones, and such as lie in it if cut to fewer bits.
     */
    void range(Class<? extends RuntimeException> due, int least, int most, Numbered call) {
        for (int i = least; i <= most; i++) {
            int number = i;
            passes("the number " + number, () -> call.run(number));
        }
        int[] others = {least - 1, most + 1, least - 2, most + 2, -most - 1, least + 256, most - 256,
                least + FAR, most - FAR, Integer.MIN_VALUE, Integer.MIN_VALUE + most, Integer.MAX_VALUE};
        for (int other : others) {
            if (other < least || other > most) {
                fails("the number " + other, due, () -> call.run(other));
            }
        }
    }

    static boolean isFromTheMachine(RuntimeException e) {
        StackTraceElement[] trace = e.getStackTrace();
        return trace.length == 0 || !trace[0].getClassName().startsWith("Bothfaces")
                || "/ by zero".equals(e.getMessage());
    }

    void tell(String text) {
        wrong++;
        if (wrong <= 40) {
            System.out.println(about + text);
        }
    }

    void end() {
        if (wrong > 0) {
            System.out.println(wrong + " wrong answers");
            System.exit(1);
        }
    }
}
