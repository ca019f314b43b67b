/** Counts the answers that are not as due. */
final class Check {
    private static int asked = 0;
    private static int wrong = 0;

    private Check() {
    }

    /** A call that may throw. */
    interface Call {
        long run();
    }

    static void same(String what, long got, long due) {
        asked++;
        if (got != due) {
            report(what + ": " + got + ", due is " + due);
        }
    }

    static void sameText(String what, String got, String due) {
        asked++;
        if (!got.equals(due)) {
            report(what + ": " + got + ", due is " + due);
        }
    }

    static void that(String what, boolean holds) {
        asked++;
        if (!holds) {
            report(what + ": does not hold");
        }
    }

    // The class itself is due, none below it: the machine's own exceptions stand below these.
    static void fails(String what, Class<? extends RuntimeException> due, Call call) {
        asked++;
        try {
            report(what + ": " + call.run() + ", due is " + due.getName());
        } catch (RuntimeException e) {
            if (e.getClass() != due) {
                report(what + ": " + e + ", due is " + due.getName());
            }
        }
    }

    static void failsIndex(String what, Call call) {
        fails(what, IndexOutOfBoundsException.class, call);
    }

    static void failsArgument(String what, Call call) {
        fails(what, IllegalArgumentException.class, call);
    }

    static void failsState(String what, Call call) {
        fails(what, IllegalStateException.class, call);
    }

    /** A call that throws, and changes nothing that any call answers. */
    static void refuses(String what, LayoutPress press, Class<? extends RuntimeException> due, Call call) {
        String before = Answers.all(press);
        fails(what, due, call);
        sameText(what + " changes nothing", Answers.all(press), before);
    }

    private static void report(String text) {
        wrong++;
        if (wrong <= 40) {
            System.out.println(text);
        }
    }

    static void end() {
        System.out.println(asked + " answers, " + wrong + " wrong");
        if (wrong != 0 || asked == 0) {
            System.exit(1);
        }
    }
}
