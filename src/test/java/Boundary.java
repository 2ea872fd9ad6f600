import java.io.IOException;
import java.io.UncheckedIOException;
import java.nio.file.Files;
import java.nio.file.Path;
import java.util.HashSet;
import java.util.Set;

/**
 * What the tests at the document's boundaries share. Each test bears the sentence that it tests, which must stand
 * in the document; allTold() fails if a sentence of the promises has none. Each call is made on a book of its own,
 * so that no book ever comes to 512 calls.
 */
final class Boundary {
    static final Class<IndexOutOfBoundsException> NO_SUCH = IndexOutOfBoundsException.class;
    static final Class<IllegalArgumentException> BAD = IllegalArgumentException.class;
    static final Class<IllegalStateException> NOT_NOW = IllegalStateException.class;
    static final int TERMS = 0;
    static final int LEAST = Integer.MIN_VALUE;
    static final int MOST = Integer.MAX_VALUE;

    private static final Path DOCUMENT = Path.of("../shared/DOC.md");
    private static final int PROMISES = 34;

    private static final String[] SECTIONS = sections();
    private static final Set<String> TOLD = new HashSet<>();
    private static String now = "";
    private static int asked = 0;

    /** Makes a new book, each time the same one. */
    interface Recipe {
        ChoirNotes make();
    }

    interface Ask {
        Object of(ChoirNotes x);
    }

    interface VoiceAsk {
        Object of(ChoirNotes x, int voice);
    }

    interface SignAsk {
        Object of(ChoirNotes x, int voice, int sign);
    }

    private Boundary() {
    }

    /** What stands ahead of the promises, and each promise under its number. */
    private static String[] sections() {
        try {
            String[] parts = Files.readString(DOCUMENT).split("\n## Promise ");
            parts[PROMISES] = parts[PROMISES].substring(0, parts[PROMISES].indexOf("\n## "));
            return parts;
        } catch (IOException e) {
            throw new UncheckedIOException(e);
        }
    }

    /** Runs the test of a sentence (or of a part of one) of a promise; it must ask something. */
    static void test(int promise, String words, Runnable test) {
        Check.count(SECTIONS[promise].contains(words), "promise " + promise + " does not say: " + words);
        TOLD.add(promise + " " + words);
        now = (promise == TERMS ? "Terms" : "promise " + promise) + ", \"" + words + "\": ";
        asked = 0;
        test.run();
        Check.count(asked > 0, now + "nothing is asked");
    }

    /** Each sentence of a promise that tells what its call does, returns or throws must have had its test. */
    static void allTold() {
        Check.count(SECTIONS.length == PROMISES + 1, "the document has " + (SECTIONS.length - 1) + " promises");
        int sentences = 0;
        for (int promise = 1; promise <= PROMISES; promise++) {
            int before = sentences;
            for (String line : SECTIONS[promise].split("\n")) {
                String words = due(line);
                if (!words.isEmpty()) {
                    sentences++;
                    Check.count(TOLD.contains(promise + " " + words), "promise " + promise + " has no test of: " + words);
                }
            }
            Check.count(sentences > before, "promise " + promise + " has no sentence");
        }
    }

    /** What of a promise's line must have a test; empty if nothing. */
    private static String due(String line) {
        if (line.startsWith("Returns") || line.startsWith("Throws")) {
            return line;
        }
        if (line.startsWith("- ") && line.contains(";")) {
            return line;
        }
        String head = line.startsWith("`") ? line.substring(line.indexOf("`: ") + 3) : "";
        return head.startsWith("- ") ? "" : head;
    }

    static void answers(String call, Object due, Recipe book, Ask ask) {
        asked++;
        ChoirNotes x = book.make();
        Check.due(now + call, due, () -> ask.of(x));
    }

    /** The call is made and throws nothing. */
    static void taken(String call, Recipe book, Ask ask) {
        asked++;
        ChoirNotes x = book.make();
        Object got = Check.outcome(() -> ask.of(x));
        Check.count(!(got instanceof String), now + call + " answered " + got);
    }

    /** The call throws just this, and the book answers and goes on as one that never had the call. */
    static void refuses(String call, Class<? extends RuntimeException> want, Recipe book, Ask ask) {
        asked++;
        ChoirNotes x = book.make();
        ChoirNotes twin = book.make();
        Check.due(now + call, "throws." + want.getSimpleName(), () -> ask.of(x));
        same(call, x, twin);
    }

    /** The call throws nothing, and the book answers and goes on as one that never had the call. */
    static void changesNothing(String call, Recipe book, Ask ask) {
        taken(call, book, ask);
        ChoirNotes x = book.make();
        ChoirNotes twin = book.make();
        ask.of(x);
        same(call, x, twin);
    }

    private static void same(String call, ChoirNotes x, ChoirNotes twin) {
        String due = Picture.of(twin);
        String got = Picture.of(x);
        Check.count(due.equals(got), now + call + " changed " + due + " to " + got);
        String dueThen = writes(twin);
        String gotThen = writes(x);
        Check.count(dueThen.equals(gotThen), now + call + " changed what can be written from " + dueThen + " to " + gotThen);
    }

    /** What a few more writing calls answer; full voices lose their last sign first. */
    private static String writes(ChoirNotes x) {
        StringBuilder text = new StringBuilder("addVoice ").append(Check.outcome(() -> x.addVoice(2, 3, 3)));
        int voices = x.voices();
        for (int v = 0; v < voices; v++) {
            int voice = v;
            if (x.signs(v) == 24) {
                text.append(" erase ").append(x.erase(v));
            }
            text.append(" addNote ").append(x.addNote(v, 0, 4, true)).append(' ').append(x.lengthOf(v, x.signs(v) - 1));
            text.append(" erase ").append(x.erase(v)).append(' ').append(Check.outcome(() -> x.erase(voice)));
            text.append(" signs ").append(x.signs(v)).append(' ').append(x.length(v));
            text.append(" clef ").append(x.setClef(v, 4));
        }
        return text.append(' ').append(x.digest()).toString();
    }

    /** The call knows each of a book's voices and none beside them, whether the book has none, some or all. */
    static void refusesNoVoice(String call, VoiceAsk ask) {
        for (int n = 0; n <= 4; n++) {
            int voices = n;
            for (int voice : new int[] {n, n + 1, 4, 5, -1, -2, LEAST, MOST}) {
                refuses(call + " of voice " + voice + " of " + n, NO_SUCH, () -> ready(voices), x -> ask.of(x, voice));
            }
            for (int v = 0; v < n; v++) {
                int voice = v;
                taken(call + " of voice " + v + " of " + n, () -> ready(voices), x -> ask.of(x, voice));
            }
        }
    }

    /** The call knows each of a voice's signs and none beside them, also where one has been erased. */
    static void refusesNoSign(String call, SignAsk ask) {
        for (int count : new int[] {0, 1, 2, 23, 24}) {
            for (int sign : new int[] {count, count + 1, 24, 25, -1, -2, LEAST, MOST}) {
                String shown = call + " of sign " + sign + " of " + count;
                refuses(shown, NO_SUCH, () -> notes(count), x -> ask.of(x, 0, sign));
            }
            for (int s = 0; s < count; s++) {
                int sign = s;
                taken(call + " of sign " + s + " of " + count, () -> notes(count), x -> ask.of(x, 0, sign));
            }
        }
        for (int sign : new int[] {1, 2, 3}) {
            refuses(call + " of erased sign " + sign, NO_SUCH, Boundary::erasedLigature, x -> ask.of(x, 0, sign));
        }
        taken(call + " of the sign that is left", Boundary::erasedLigature, x -> ask.of(x, 0, 0));
        refuses(call + " of another voice's sign", NO_SUCH, Boundary::oneAndTwo, x -> ask.of(x, 0, 1));
        taken(call + " of the other voice's sign", Boundary::oneAndTwo, x -> ask.of(x, 1, 1));
    }

    /** Voices with a clef and a note each, so that every call can be made of every one of them. */
    static ChoirNotes ready(int voices) {
        ChoirNotes x = new ChoirNotes();
        for (int v = 0; v < voices; v++) {
            x.addVoice(2, 3, 2);
            x.setClef(v, 2);
            x.addNote(v, 1, 4 + v, false);
        }
        return x;
    }

    /** One voice of 2, 2, 2 with a clef and as many minims on place 4. */
    static ChoirNotes notes(int count) {
        ChoirNotes x = new ChoirNotes();
        x.addVoice(2, 2, 2);
        x.setClef(0, 2);
        for (int n = 0; n < count; n++) {
            x.addNote(0, 3, 4, false);
        }
        return x;
    }

    static ChoirNotes emptyVoices(int voices) {
        ChoirNotes x = new ChoirNotes();
        for (int v = 0; v < voices; v++) {
            x.addVoice(2, 2, 2);
        }
        return x;
    }

    /** Voices of 3, 3, 3 with the clef 2 and as many longas on place 4: 24 of them are 648 minims long. */
    static ChoirNotes longas(int voices, int count) {
        ChoirNotes x = new ChoirNotes();
        for (int v = 0; v < voices; v++) {
            x.addVoice(3, 3, 3);
            x.setClef(v, 2);
            for (int n = 0; n < count; n++) {
                x.addNote(v, 0, 4, false);
            }
        }
        return x;
    }

    private static ChoirNotes erasedLigature() {
        ChoirNotes x = notes(1);
        x.addLigature(0, 3, 5, 4, false);
        x.erase(0);
        return x;
    }

    private static ChoirNotes oneAndTwo() {
        ChoirNotes x = ready(2);
        x.addNote(1, 2, 7, false);
        return x;
    }
}
