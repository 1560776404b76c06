/**
 * Counts and prints the answers that are not as due, each with the document's sentence that it breaks;
 * the last line of each test's main is finish().
 */
final class Expect {
    private static int wrong = 0;
    private static int seen = 0;
    private static String sentence = "";

    private Expect() {
    }

    /** What follows is a test of these words of the document. */
    static void sentence(String where, String words) {
        sentence = where + ": \"" + words + "\": ";
    }

    static void equal(String what, long got, long want) {
        seen++;
        if (got != want) {
            complain(what + " answered " + got + ", due is " + want);
        }
    }

    static void equal(String what, String got, String want) {
        seen++;
        if (!got.equals(want)) {
            complain(what + " is " + got + ", due is " + want);
        }
    }

    static void isTrue(String what, boolean holds) {
        equal(what, holds ? 1 : 0, 1);
    }

    /** The exception of exactly this class: a kind of it would be another answer. */
    static void throwing(String what, Class<? extends RuntimeException> due, Runnable call) {
        String got = "nothing";
        try {
            call.run();
        } catch (RuntimeException e) {
            got = e.getClass().getSimpleName();
        }
        equal("what " + what + " throws", got, due.getSimpleName());
    }

    static void finish() {
        String count = wrong == 0 ? seen + " answers are" : wrong + " of " + seen + " answers are not";
        System.out.println(count + " as due");
        if (wrong != 0) {
            System.exit(1);
        }
    }

    private static void complain(String what) {
        wrong++;
        System.out.println(sentence + what);
    }
}
