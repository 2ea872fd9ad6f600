/** Counts the answers that are as due and prints each that is not. */
final class Check {
    interface Call {
        Object answer();
    }

    private static int right = 0;
    private static int wrong = 0;

    private Check() {
    }

    static void due(String call, Object want, Call made) {
        Object got = outcome(made);
        count(want.equals(got), call + " answered " + got + ", due is " + want);
    }

    /**
     * The call must throw just this class (none below it) and must not change the digest. That it changes nothing
     * else either is for BoundaryTest: to look at all here would take a book beyond its 512 calls.
     */
    static void refused(String call, Class<? extends RuntimeException> want, ChoirNotes x, Call made) {
        long before = x.digest();
        Object got = outcome(made);
        count(("throws." + want.getSimpleName()).equals(got), call + " answered " + got + ", due is " + want);
        long after = x.digest();
        count(before == after, call + " changed the digest from " + before + " to " + after);
    }

    static void unchanged(String call, ChoirNotes x, Call made) {
        long before = x.digest();
        Object got = outcome(made);
        long after = x.digest();
        count(before == after, call + " answered " + got + " and changed the digest from " + before + " to " + after);
    }

    static Object outcome(Call made) {
        try {
            return made.answer();
        } catch (RuntimeException e) {
            return "throws." + e.getClass().getSimpleName();
        }
    }

    static void count(boolean asDue, String otherwise) {
        if (asDue) {
            right++;
        } else {
            wrong++;
            if (wrong <= 100) {
                System.out.println(otherwise);
            }
        }
    }

    /** Ends the program: with 1 if an answer was not as due, or none was asked. */
    static void finish() {
        System.out.println(right + " answers are as due, " + wrong + " are not");
        System.exit(wrong == 0 && right > 0 ? 0 : 1);
    }
}
