/** Counts the answers of a test that are not the due ones; end() ends it with exit code 1 if there was one. */
final class Check {
    /** A call that may throw. */
    interface Call {
        void run();
    }

    private int wrong;

    void same(String what, long got, long want) {
        if (got != want) {
            tell(what + " answered " + got + ", due is " + want);
        }
    }

    void sameDouble(String what, double got, double want) {
        if (got != want) {
            tell(what + " answered " + got + ", due is " + want);
        }
    }

    void yes(String what, boolean got) {
        if (!got) {
            tell(what + " answered false, due is true");
        }
    }

    void no(String what, boolean got) {
        if (got) {
            tell(what + " answered true, due is false");
        }
    }

    /** The call must throw this very class, by a throw statement of Bothfaces. */
    void fails(String what, Class<? extends RuntimeException> due, Call call) {
        try {
            call.run();
        } catch (RuntimeException e) {
            if (e.getClass() != due) {
                tell(what + " threw " + e.getClass().getName() + ", due is " + due.getName());
            } else if (isFromTheMachine(e)) {
                tell(what + " let the machine throw: " + e);
            }
            return;
        }
        tell(what + " threw nothing, due is " + due.getName());
    }

    static boolean isFromTheMachine(RuntimeException e) {
        StackTraceElement[] trace = e.getStackTrace();
        return trace.length == 0 || !trace[0].getClassName().startsWith("Bothfaces")
                || "/ by zero".equals(e.getMessage());
    }

    void tell(String text) {
        wrong++;
        if (wrong <= 40) {
            System.out.println(text);
        }
    }

    void end() {
        if (wrong > 0) {
            System.out.println(wrong + " wrong answers");
            System.exit(1);
        }
    }
}
