/** What the tests share: they count what is wrong, print it, and end with 1 if there was something. */
final class Expect {
    interface Call {
        void run();
    }

    private static int checked = 0;
    private static int wrong = 0;

    private Expect() {
    }

    static void same(String what, long got, long want) {
        checked++;
        if (got != want) {
            note(what + " answered " + got + ", due is " + want);
        }
    }

    static void same(String what, boolean got, boolean want) {
        same(what, got ? 1 : 0, want ? 1 : 0);
    }

    static void sameDouble(String what, double got, double want) {
        checked++;
        if (Double.compare(got, want) != 0) {
            note(what + " answered " + got + ", due is " + want);
        }
    }

    /** The very class is due, not one below it. */
    static void thrown(String what, Class<? extends RuntimeException> due, Call call) {
        checked++;
        try {
            call.run();
        } catch (RuntimeException e) {
            if (e.getClass() != due) {
                note(what + " threw " + e + ", due is " + due.getSimpleName());
            } else if (!isThrownByTheClass(e)) {
                note(what + ": " + e + " is the machine's or the library's own");
            }
            return;
        }
        note(what + " threw nothing, due is " + due.getSimpleName());
    }

    /** The library throws from a frame of its own, and the machine with no trace once it is hot. */
    private static boolean isThrownByTheClass(RuntimeException e) {
        StackTraceElement[] trace = e.getStackTrace();
        return trace.length > 0 && trace[0].getClassName().equals("Towerliftry");
    }

    static void note(String text) {
        wrong++;
        if (wrong <= 40) {
            System.out.println(text);
        }
    }

    static int wrongSoFar() {
        return wrong;
    }

    static void end() {
        System.out.println(checked + " checks, " + wrong + " wrong");
        if (wrong != 0) {
            System.exit(1);
        }
    }
}
