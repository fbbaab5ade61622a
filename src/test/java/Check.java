/** Counts the answers that are not due and prints each of them. */
final class Check {
    private static int asked = 0;
    private static int wrong = 0;

    private Check() {
    }

    static void equal(String what, long due, long got) {
        asked++;
        if (due != got) {
            wrong++;
            System.out.println(what + ": answered " + got + ", due is " + due);
        }
    }

    static void holds(String what, boolean got) {
        equal(what, 1, got ? 1 : 0);
    }

    static void badArgument(String what, Runnable call) {
        thrown(what, IllegalArgumentException.class, call);
    }

    static void badState(String what, Runnable call) {
        thrown(what, IllegalStateException.class, call);
    }

    static void badIndex(String what, Runnable call) {
        thrown(what, IndexOutOfBoundsException.class, call);
    }

    private static void thrown(String what, Class<?> due, Runnable call) {
        asked++;
        Object got = null;
        try {
            call.run();
        } catch (RuntimeException e) {
            got = e.getClass();
        }
        if (due != got) {
            wrong++;
            System.out.println(what + ": threw " + got + ", due is " + due);
        }
    }

    static void end(String test) {
        System.out.println(test + ": " + asked + " answers, " + wrong + " of them wrong");
        if (wrong != 0) {
            System.exit(1);
        }
    }
}
