/** Counts the answers that are not as due; shared by all tests. */
final class Checks {
    private static int asked = 0;
    private static int wrong = 0;

    private Checks() {
    }

    interface Call {
        void run();
    }

    /** A test of its own for one sentence of the document, which is told if it does not hold. */
    static void holds(String sentence, Call test) {
        int askedBefore = asked;
        int wrongBefore = wrong;
        try {
            test.run();
        } catch (RuntimeException e) {
            wrong++;
            System.out.println("the test itself threw " + e);
        }
        if (asked == askedBefore) {
            wrong++;
            System.out.println("the test asked nothing");
        }
        if (wrong > wrongBefore) {
            System.out.println("does not hold: " + sentence);
        }
    }

    static void due(String call, long got, long want) {
        asked++;
        if (got != want) {
            wrong++;
            System.out.println(call + " answered " + got + ", due is " + want);
        }
    }

    static void due(String call, String got, String want) {
        asked++;
        if (!got.equals(want)) {
            wrong++;
            System.out.println(call + " answered " + got + ", due is " + want);
        }
    }

    /** The exception's very class is due: a subclass would be another exception. */
    static void dueThrow(String call, Class<? extends RuntimeException> want, Call run) {
        asked++;
        Class<?> got = null;
        try {
            run.run();
        } catch (RuntimeException e) {
            got = e.getClass();
        }
        if (got != want) {
            wrong++;
            System.out.println(call + " threw " + got + ", due is " + want);
        }
    }

    static void finish(String test) {
        System.out.println(test + ": " + asked + " answers, " + wrong + " not as due");
        if (wrong != 0 || asked == 0) {
            System.exit(1);
        }
    }
}
