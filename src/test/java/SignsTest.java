/** Promises 10 to 17: the calls that tell of signs. */
public final class SignsTest {
    private static final Class<IndexOutOfBoundsException> NO_SUCH = IndexOutOfBoundsException.class;

    public static void main(String[] args) {
        promise10Voices();
        ChoirNotes x = book();
        promises11To13Counts(x);
        promises14To17Signs(x);
        refusals(x);
        Check.finish();
    }

    /** Voice 0: note, rest, ligature of three, coloured note, ligature of two; voice 1: nothing. */
    private static ChoirNotes book() {
        ChoirNotes x = new ChoirNotes();
        x.addVoice(2, 3, 2);
        x.addVoice(3, 3, 3);
        x.addNote(0, 3, 9, false);
        x.addRest(0, 2);
        x.addLigature(0, 4, 2, 3, false);
        x.addNote(0, 0, 0, true);
        x.addLigature(0, 1, 8, -1, true);
        return x;
    }

    private static void promise10Voices() {
        ChoirNotes x = new ChoirNotes();
        for (int v = 0; v < 4; v++) {
            int voices = v;
            Check.due("voices()", voices, () -> x.voices());
            x.addVoice(2, 2, 2);
        }
        Check.due("voices()", 4, () -> x.voices());
    }

    private static void promises11To13Counts(ChoirNotes x) {
        Check.due("signs(0)", 8, () -> x.signs(0));
        Check.due("signs(1)", 0, () -> x.signs(1));
        Check.due("notes(0)", 7, () -> x.notes(0));
        Check.due("notes(1)", 0, () -> x.notes(1));
        Check.due("ligatures(0)", 2, () -> x.ligatures(0));
        Check.due("ligatures(1)", 0, () -> x.ligatures(1));
    }

    private static void promises14To17Signs(ChoirNotes x) {
        int[] kinds = {3, 2, 0, 1, 1, 0, 2, 2};
        int[] places = {9, -1, 4, 2, 3, 0, 1, 8};
        boolean[] colours = {false, false, false, false, false, true, false, false};
        int[] ranks = {-1, -1, 0, 1, 2, -1, 0, 1};
        for (int s = 0; s < kinds.length; s++) {
            int sign = s;
            Check.due("kindOf(0, " + s + ")", kinds[s], () -> x.kindOf(0, sign));
            Check.due("placeOf(0, " + s + ")", places[s], () -> x.placeOf(0, sign));
            Check.due("isColoured(0, " + s + ")", colours[s], () -> x.isColoured(0, sign));
            Check.due("placeInLigature(0, " + s + ")", ranks[s], () -> x.placeInLigature(0, sign));
        }
    }

    private static void refusals(ChoirNotes x) {
        for (int voice : new int[] {-1, 2, 3, 4, Integer.MIN_VALUE, Integer.MAX_VALUE}) {
            Check.refused("signs", NO_SUCH, x, () -> x.signs(voice));
            Check.refused("notes", NO_SUCH, x, () -> x.notes(voice));
            Check.refused("ligatures", NO_SUCH, x, () -> x.ligatures(voice));
            signRefusals(x, voice, 0);
        }
        for (int sign : new int[] {-1, 8, 24, 25, Integer.MIN_VALUE, Integer.MAX_VALUE}) {
            signRefusals(x, 0, sign);
        }
        signRefusals(x, 1, 0);
    }

    private static void signRefusals(ChoirNotes x, int voice, int sign) {
        Check.refused("kindOf", NO_SUCH, x, () -> x.kindOf(voice, sign));
        Check.refused("placeOf", NO_SUCH, x, () -> x.placeOf(voice, sign));
        Check.refused("isColoured", NO_SUCH, x, () -> x.isColoured(voice, sign));
        Check.refused("placeInLigature", NO_SUCH, x, () -> x.placeInLigature(voice, sign));
    }
}
