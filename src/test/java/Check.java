import java.util.Arrays;

/** Counts the answers that are not due and prints each of them. */
final class Check {
    private static int asked = 0;
    private static int wrong = 0;
    private static int sentences = 0;
    private static int askedBefore = 0;
    private static String sentence = "";

    private Check() {
    }

    /** Runs each of the tests, also if one before it has thrown. */
    static void all(Runnable... tests) {
        for (Runnable test : tests) {
            sentence = "";
            try {
                test.run();
            } catch (RuntimeException e) {
                fail("threw, as no call of it should");
                e.printStackTrace(System.out);
            }
        }
    }

    /** What is checked from here on tests this sentence of the document. */
    static void sentence(String text) {
        endSentence();
        sentences++;
        sentence = text;
    }

    static void equal(String what, long due, long got) {
        asked++;
        if (due != got) {
            fail(what + ": answered " + got + ", due is " + due);
        }
    }

    static void equal(String what, int[] due, int[] got) {
        asked++;
        if (!Arrays.equals(due, got)) {
            fail(what + ": answered " + Arrays.toString(got) + ", due is " + Arrays.toString(due));
        }
    }

    static void holds(String what, boolean got) {
        equal(what, 1, got ? 1 : 0);
    }

    static void badArgument(String what, Runnable call) {
        thrown(what, IllegalArgumentException.class, call);
    }

    static void badState(String what, Runnable call) {
        thrown(what, IllegalStateException.class, call);
    }

    static void badIndex(String what, Runnable call) {
        thrown(what, IndexOutOfBoundsException.class, call);
    }

    static void thrown(String what, Class<?> due, Runnable call) {
        asked++;
        Object got = null;
        try {
            call.run();
        } catch (RuntimeException e) {
            got = e.getClass();
        }
        if (due != got) {
            fail(what + ": threw " + got + ", due is " + due);
        }
    }

    static void end(String test) {
        endSentence();
        String counted = sentences > 0 ? sentences + " sentences, " : "";
        System.out.println(test + ": " + counted + asked + " answers, " + wrong + " of them wrong");
        if (wrong != 0) {
            System.exit(1);
        }
    }

    private static void endSentence() {
        if (sentences > 0 && asked == askedBefore) {
            fail("nothing is checked");
        }
        askedBefore = asked;
    }

    private static void fail(String text) {
        wrong++;
        System.out.println(sentence.isEmpty() ? text : "\"" + sentence + "\": " + text);
    }
}
