import java.lang.reflect.InvocationTargetException;
import java.lang.reflect.Method;

/** Long runs of all calls, right and wrong ones, on a ChoirNotes and on a Model at once: every answer is compared. */
public final class ModelTest {
    private static final int RUNS = 150;
    /** With the digest at the end there are 512, the most that the document promises. */
    private static final int CALLS = 511;

    /**
     * A call and what its numbers are: m of a mensuration, v a voice, s a sign, k a kind, p a place, t a third
     * place, c a clef, d a delay, u up, i a time, b a boolean. The first rows write.
     */
    private static final String[] CALL_ROWS = {
        "addNote vkpb", "addRest vk", "addLigature vpptb", "addVoice mmm", "erase v", "recolour vs",
        "setClef vc", "setMensuration vmmm",
        "voices ", "signs v", "notes v", "ligatures v", "kindOf vs", "placeOf vs", "isColoured vs",
        "placeInLigature vs", "lengthOf vs", "beginOf vs", "length v", "longest ", "signAt vi", "clefOf v",
        "pitchOf vs", "fits vc", "clefsThatFit v", "clashes vv", "firstClash vv", "clashesWith vc",
        "bestClef v", "canonClashes vdu", "bestDelay vu", "meanLength ", "digest "};
    private static final int WRITING_ROWS = 8;
    private static final int[] WRONG = {Integer.MIN_VALUE, -9, -2, -1, 0, 1, 4, 5, 6, 8, 10, 11, 24, 25, 49, 1000,
        Integer.MAX_VALUE};

    private static long seed;

    public static void main(String[] args) throws ReflectiveOperationException {
        for (int run = 0; run < RUNS; run++) {
            oneRun(run);
        }
        Check.finish();
    }

    private static void oneRun(int run) throws ReflectiveOperationException {
        seed = 1000003L * run + 17;
        ChoirNotes x = new ChoirNotes();
        Model model = new Model();
        StringBuilder calls = new StringBuilder("run " + run + ": ");
        // Some runs write little and some only at their beginning, so that small and full books are both met.
        int writing = 20 + below(70);
        boolean endsEarly = below(3) == 0;
        for (int n = 0; n < CALLS; n++) {
            boolean writes = below(100) < (endsEarly && n > 100 ? 3 : writing);
            int number = writes ? writingRow() : WRITING_ROWS + below(CALL_ROWS.length - WRITING_ROWS);
            String row = n < 1 + run % 4 ? "addVoice mmm" : CALL_ROWS[number];
            String name = row.substring(0, row.indexOf(' '));
            Object[] numbers = numbers(row.substring(row.indexOf(' ') + 1), model);
            calls.append(name).append(java.util.Arrays.toString(numbers)).append(' ');
            Object got = outcome(x, name, numbers);
            Object want = outcome(model, name, numbers);
            Check.count(want.equals(got), calls + "answered " + got + ", due is " + want);
            if (!want.equals(got)) {
                return;
            }
        }
        Check.count(x.digest() == model.digest(), calls + "end with another digest");
    }

    private static int writingRow() {
        int number = below(16);
        return number < WRITING_ROWS ? number : number % 3;
    }

    private static Object[] numbers(String kinds, Model model) {
        Object[] numbers = new Object[kinds.length()];
        boolean wrong = below(12) == 0;
        for (int i = 0; i < numbers.length; i++) {
            char kind = kinds.charAt(i);
            if (kind == 'b') {
                numbers[i] = below(2) == 0;
            } else {
                numbers[i] = wrong && below(2) == 0 ? WRONG[below(WRONG.length)] : right(kind, model);
            }
        }
        return numbers;
    }

    private static int right(char kind, Model model) {
        switch (kind) {
            case 'm':
                return 2 + below(2);
            case 'v':
                return below(Math.max(1, model.voices()));
            case 's':
                return below(model.voices() == 0 ? 3 : Math.max(1, model.signs(0)));
            case 'k':
                return below(4);
            case 'p':
                return below(10);
            case 't':
                return below(11) - 1;
            case 'c':
                return below(8) == 0 ? -1 : below(6);
            case 'd':
                return 1 + below(48);
            case 'u':
                return below(15) - 7;
            default:
                return below(below(2) == 0 ? 40 : 700);
        }
    }

    private static Object outcome(Object book, String name, Object[] numbers) throws ReflectiveOperationException {
        for (Method method : book.getClass().getDeclaredMethods()) {
            if (method.getName().equals(name) && method.getParameterCount() == numbers.length
                    && java.lang.reflect.Modifier.isPublic(method.getModifiers())) {
                try {
                    return method.invoke(book, numbers);
                } catch (InvocationTargetException e) {
                    return "throws." + e.getCause().getClass().getName();
                }
            }
        }
        throw new NoSuchMethodException(name);
    }

    /** The same numbers in every run of this test. */
    private static int below(int bound) {
        seed = seed * 6364136223846793005L + 1442695040888963407L;
        return (int) ((seed >>> 33) % bound);
    }
}
