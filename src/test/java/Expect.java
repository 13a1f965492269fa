/** What the tests share: it prints every answer that is not the one that is due, and ends with exit code 1 then. */
final class Expect {
    /** A call of the face, and what it may throw. */
    interface Call {
        long answer();
    }

    private static int wrong = 0;
    private static String sentence = "";

    private Expect() {
    }

    /** The test of a sentence: its words stand ahead of each answer in it that is not the one that is due. */
    static void holds(String words, Runnable test) {
        sentence = "\"" + words + "\": ";
        try {
            test.run();
        } catch (RuntimeException e) {
            say("an answer was due, but thrown was " + e);
        }
        sentence = "";
    }

    static void same(String what, long want, long got) {
        if (want != got) {
            say(what + " answered " + got + ", due is " + want);
        }
    }

    static void sameMean(String what, double want, double got) {
        if (want != got) {
            say(what + " answered " + got + ", due is " + want);
        }
    }

    /** What told() tells of one lantern, from its first fact on. */
    static void told(String what, LanternWeirs x, int lantern, int... due) {
        for (int i = 0; i < due.length; i++) {
            same(what + ": told(" + lantern + ", " + i + ")", due[i], x.told(lantern, i));
        }
    }

    /** One fact of each lantern, from the first on. */
    static void each(String what, LanternWeirs x, int fact, int... due) {
        for (int i = 0; i < due.length; i++) {
            same(what + ": told(" + i + ", " + fact + ")", due[i], x.told(i, fact));
        }
    }

    /** The call throws exactly this exception, and leaves the object as it was. */
    static void refused(String what, Class<? extends RuntimeException> due, LanternWeirs x, Call call) {
        long before = x.digest();
        String got;
        try {
            got = "answered " + call.answer();
        } catch (RuntimeException e) {
            got = e.getClass() == due ? "" : "threw " + e;
        }
        if (!got.isEmpty()) {
            say(what + " " + got + ", due is " + due.getSimpleName());
        }
        same(what + ", then digest()", before, x.digest());
    }

    static void outside(String what, LanternWeirs x, Call call) {
        refused(what, IndexOutOfBoundsException.class, x, call);
    }

    static void wrongArgument(String what, LanternWeirs x, Call call) {
        refused(what, IllegalArgumentException.class, x, call);
    }

    static void wrongState(String what, LanternWeirs x, Call call) {
        refused(what, IllegalStateException.class, x, call);
    }

    private static void say(String text) {
        wrong++;
        System.out.println(sentence + text);
    }

    static void end() {
        if (wrong > 0) {
            System.exit(1);
        }
    }
}
