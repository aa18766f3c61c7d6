import java.util.NoSuchElementException;

/** What the tests share: compares answers, tells each that is wrong, and ends with exit code 1 if there was one. */
final class Check {
    private static int checks = 0;
    private static int wrong = 0;
    /** A broken class would otherwise fill the log of a long walk. */
    private static final int MOST_TOLD = 50;

    private Check() {
    }

    /** A call, so that what it throws can be looked at. */
    interface Call {
        void run();
    }

    static void same(String what, long got, long due) {
        checks++;
        if (got != due) {
            tell(what + ": answered " + got + ", due is " + due);
        }
    }

    static void isTrue(String what, boolean holds) {
        same(what, holds ? 1 : 0, 1);
    }

    static void noElement(String what, Call call) {
        thrown(what, NoSuchElementException.class, call);
    }

    static void badArgument(String what, Call call) {
        thrown(what, IllegalArgumentException.class, call);
    }

    static void badState(String what, Call call) {
        thrown(what, IllegalStateException.class, call);
    }

    static void badIndex(String what, Call call) {
        thrown(what, IndexOutOfBoundsException.class, call);
    }

    static void thrown(String what, Class<? extends RuntimeException> due, Call call) {
        checks++;
        Class<?> got = null;
        try {
            call.run();
        } catch (RuntimeException e) {
            got = e.getClass();
        }
        if (got != due) {
            tell(what + ": threw " + got + ", due is " + due);
        }
    }

    /** The thirteen answers of about(), in their order. */
    static void about(String what, BudgetKernel kernel, int source, int... due) {
        for (int i = 0; i < due.length; i++) {
            same(what + ": about(" + source + ", " + i + ")", kernel.about(source, i), due[i]);
        }
    }

    static void ticks(String what, BudgetKernel kernel, int... due) {
        for (int i = 0; i < due.length; i++) {
            same(what + ": tick " + i, kernel.tick(), due[i]);
        }
    }

    private static void tell(String fault) {
        wrong++;
        if (wrong <= MOST_TOLD) {
            System.out.println(fault);
        }
    }

    static void end() {
        System.out.println(checks + " checks, " + wrong + " wrong");
        if (wrong != 0 || checks == 0) {
            System.exit(1);
        }
    }
}
