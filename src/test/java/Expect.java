/** What the tests share: it prints every answer that is not the one that is due, and ends with exit code 1 then. */
final class Expect {
    /** A call of the face, and what it may throw. */
    interface Call {
        long answer();
    }

    private static int wrong = 0;

    private Expect() {
    }

    static void same(String what, long want, long got) {
        if (want != got) {
            say(what + " answered " + got + ", due is " + want);
        }
    }

    static void sameMean(String what, double want, double got) {
        if (want != got) {
            say(what + " answered " + got + ", due is " + want);
        }
    }

    /** The call throws exactly this exception, and leaves the object as it was. */
    static void refused(String what, Class<? extends RuntimeException> due, LanternWeirs x, Call call) {
        long before = x.digest();
        String got;
        try {
            got = "answered " + call.answer();
        } catch (RuntimeException e) {
            got = e.getClass() == due ? "" : "threw " + e;
        }
        if (!got.isEmpty()) {
            say(what + " " + got + ", due is " + due.getSimpleName());
        }
        same(what + ", then digest()", before, x.digest());
    }

    static void outside(String what, LanternWeirs x, Call call) {
        refused(what, IndexOutOfBoundsException.class, x, call);
    }

    static void wrongArgument(String what, LanternWeirs x, Call call) {
        refused(what, IllegalArgumentException.class, x, call);
    }

    static void wrongState(String what, LanternWeirs x, Call call) {
        refused(what, IllegalStateException.class, x, call);
    }

    private static void say(String text) {
        wrong++;
        System.out.println(text);
    }

    static void end() {
        if (wrong > 0) {
            System.exit(1);
        }
    }
}
