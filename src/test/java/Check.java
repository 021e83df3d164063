/** Compares answers with those that are due, and ends a test's program with exit code 1 if one differs. */
final class Check {
    interface Call {
        long answer();
    }

    interface Deed {
        void run();
    }

    private static int looked = 0;
    private static int wrong = 0;

    private Check() {
    }

    static void is(String what, long due, Call call) {
        looked++;
        try {
            long got = call.answer();
            if (got != due) {
                complain(what + " answered " + got + ", due is " + due);
            }
        } catch (RuntimeException e) {
            complain(what + " threw " + e + ", due is " + due);
        }
    }

    static void done(String what, Deed deed) {
        is(what, 0, () -> {
            deed.run();
            return 0;
        });
    }

    /** The class must be this very one, since what the machine throws is often a class below it. */
    static void fails(String what, Class<? extends RuntimeException> due, Deed deed) {
        looked++;
        try {
            deed.run();
            complain(what + " threw nothing, due is " + due.getSimpleName());
        } catch (RuntimeException e) {
            if (e.getClass() != due) {
                complain(what + " threw " + e + ", due is " + due.getSimpleName());
            }
        }
    }

    static void same(String what, String due, String got) {
        looked++;
        if (!due.equals(got)) {
            complain(what + " answered " + got + ", due is " + due);
        }
    }

    static void complain(String text) {
        wrong++;
        if (wrong <= 50) {
            System.out.println(text);
        }
    }

    static void end() {
        System.out.println(looked + " answers looked at, " + wrong + " not as due");
        if (wrong != 0 || looked == 0) {
            System.exit(1);
        }
    }
}
