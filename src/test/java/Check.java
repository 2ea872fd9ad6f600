/** Counts the answers that are as due and prints each that is not. */
final class Check {
    interface Call {
        Object answer();
    }

    private static int right = 0;
    private static int wrong = 0;

    private Check() {
    }

    static void due(String call, Object want, Call made) {
        Object got = outcome(made);
        count(want.equals(got), call + " answered " + got + ", due is " + want);
    }

    /** The call must throw just this class (none below it) and must change nothing. */
    static void refused(String call, Class<? extends RuntimeException> want, ChoirNotes x, Call made) {
        String before = Picture.of(x);
        Object got = outcome(made);
        count(("throws." + want.getSimpleName()).equals(got), call + " answered " + got + ", due is " + want);
        String after = Picture.of(x);
        count(before.equals(after), call + " changed " + before + " to " + after);
    }

    static void unchanged(String call, ChoirNotes x, Call made) {
        String before = Picture.of(x);
        Object got = outcome(made);
        String after = Picture.of(x);
        count(before.equals(after), call + " answered " + got + " and changed " + before + " to " + after);
    }

    static Object outcome(Call made) {
        try {
            return made.answer();
        } catch (RuntimeException e) {
            return "throws." + e.getClass().getSimpleName();
        }
    }

    static void count(boolean asDue, String otherwise) {
        if (asDue) {
            right++;
        } else {
            wrong++;
            if (wrong <= 100) {
                System.out.println(otherwise);
            }
        }
    }

    /** Ends the program: with 1 if an answer was not as due, or none was asked. */
    static void finish() {
        System.out.println(right + " answers are as due, " + wrong + " are not");
        System.exit(wrong == 0 && right > 0 ? 0 : 1);
    }
}
