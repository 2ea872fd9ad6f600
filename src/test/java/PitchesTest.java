/** Promises 23 to 28: the calls that tell of pitches. */
public final class PitchesTest {
    private static final Class<IndexOutOfBoundsException> NO_SUCH = IndexOutOfBoundsException.class;
    private static final Class<IllegalArgumentException> BAD = IllegalArgumentException.class;
    private static final Class<IllegalStateException> NOT_NOW = IllegalStateException.class;
    private static final int[] FAR = {Integer.MIN_VALUE, -1, 2, 4, Integer.MAX_VALUE};

    public static void main(String[] args) {
        promise23ClefOf();
        promise24PitchOf();
        promise25Fits();
        promise26ClefsThatFit();
        promises27And28EveryDistance();
        promises27And28InTime();
        promises27And28Refusals();
        Check.finish();
    }

    private static ChoirNotes twoVoices() {
        ChoirNotes x = new ChoirNotes();
        x.addVoice(2, 2, 2);
        x.addVoice(3, 3, 3);
        return x;
    }

    private static void promise23ClefOf() {
        ChoirNotes x = twoVoices();
        Check.due("clefOf(0)", -1, () -> x.clefOf(0));
        x.setClef(1, 5);
        Check.due("clefOf(0)", -1, () -> x.clefOf(0));
        Check.due("clefOf(1)", 5, () -> x.clefOf(1));
        x.setClef(1, -1);
        Check.due("clefOf(1)", -1, () -> x.clefOf(1));
        for (int voice : FAR) {
            Check.refused("clefOf", NO_SUCH, x, () -> x.clefOf(voice));
        }
    }

    private static void promise24PitchOf() {
        ChoirNotes x = twoVoices();
        for (int place = 0; place <= 9; place++) {
            x.addNote(0, place % 4, place, place % 2 == 0);
        }
        x.addRest(0, 1);
        Check.refused("pitchOf without a clef", NOT_NOW, x, () -> x.pitchOf(0, 0));
        Check.refused("pitchOf a rest without a clef", NOT_NOW, x, () -> x.pitchOf(0, 10));
        Check.refused("pitchOf no sign without a clef", NO_SUCH, x, () -> x.pitchOf(0, 11));
        for (int c = 0; c <= 5; c++) {
            int clef = c;
            x.setClef(0, clef);
            for (int p = 0; p <= 9; p++) {
                int place = p;
                Check.due("pitchOf", place + 2 * clef, () -> x.pitchOf(0, place));
            }
            Check.due("pitchOf a rest", -1, () -> x.pitchOf(0, 10));
        }
        Check.refused("pitchOf(0, -1)", NO_SUCH, x, () -> x.pitchOf(0, -1));
        Check.refused("pitchOf(0, 11)", NO_SUCH, x, () -> x.pitchOf(0, 11));
        Check.refused("pitchOf(1, 0)", NO_SUCH, x, () -> x.pitchOf(1, 0));
        for (int voice : FAR) {
            Check.refused("pitchOf", NO_SUCH, x, () -> x.pitchOf(voice, 0));
        }
    }

    private static void promise25Fits() {
        ChoirNotes x = twoVoices();
        for (int clef = 0; clef <= 5; clef++) {
            int c = clef;
            Check.due("fits an empty voice", true, () -> x.fits(0, c));
        }
        for (int low = 0; low <= 9; low++) {
            for (int high = low; high <= 9; high++) {
                ChoirNotes y = twoVoices();
                y.addRest(0, 0);
                y.addNote(0, 3, high, false);
                y.addNote(0, 3, low, false);
                for (int clef = 0; clef <= 5; clef++) {
                    int c = clef;
                    boolean due = low + 2 * clef >= 3 && high + 2 * clef <= 16;
                    Check.due("fits " + low + " to " + high + " with " + clef, due, () -> y.fits(0, c));
                }
            }
        }
        x.setClef(0, 3);
        Check.refused("fits(0, 6)", BAD, x, () -> x.fits(0, 6));
        Check.refused("fits(0, -1)", BAD, x, () -> x.fits(0, -1));
        for (int voice : FAR) {
            Check.refused("fits", NO_SUCH, x, () -> x.fits(voice, 6));
        }
    }

    private static void promise26ClefsThatFit() {
        ChoirNotes x = twoVoices();
        Check.due("clefsThatFit of an empty voice", 6, () -> x.clefsThatFit(0));
        x.addRest(0, 0);
        Check.due("clefsThatFit of rests", 6, () -> x.clefsThatFit(0));
        int[] due = {4, 5, 5, 6, 6, 6, 6, 5, 5, 4};
        for (int place = 0; place <= 9; place++) {
            int p = place;
            x.addNote(0, 1, place, false);
            Check.due("clefsThatFit place " + place, due[p], () -> x.clefsThatFit(0));
            x.erase(0);
        }
        x.addLigature(0, 0, 9, -1, false);
        Check.due("clefsThatFit of places 0 and 9", 2, () -> x.clefsThatFit(0));
        for (int voice : FAR) {
            Check.refused("clefsThatFit", NO_SUCH, x, () -> x.clefsThatFit(voice));
        }
    }

    /** The distances that clash are written out; the farthest that two pitches can be is 19. */
    private static void promises27And28EveryDistance() {
        String clashing = " 1 3 6 8 10 13 15 17 ";
        for (int p = 0; p <= 19; p++) {
            for (int q = 0; q <= 19; q++) {
                ChoirNotes x = twoVoices();
                put(x, 0, p);
                put(x, 1, q);
                boolean clash = clashing.contains(" " + Math.abs(p - q) + " ");
                Check.due("clashes of " + p + " and " + q, clash ? 4 : 0, () -> x.clashes(0, 1));
                Check.due("firstClash of " + p + " and " + q, clash ? 0 : -1, () -> x.firstClash(0, 1));
            }
        }
    }

    /** A note of this pitch, a breve. */
    private static void put(ChoirNotes x, int voice, int pitch) {
        int clef = Math.min(5, pitch / 2);
        x.setClef(voice, clef);
        x.addNote(voice, 1, pitch - 2 * clef, false);
    }

    private static void promises27And28InTime() {
        ChoirNotes x = twoVoices();
        Check.refused("clashes without a clef", NOT_NOW, x, () -> x.clashes(0, 1));
        x.setClef(0, 1);
        x.setClef(1, 1);
        Check.due("clashes of empty voices", 0, () -> x.clashes(0, 1));
        Check.due("firstClash of empty voices", -1, () -> x.firstClash(0, 1));
        x.addNote(0, 1, 4, false); // 0 to 4
        x.addRest(0, 1); // 4 to 8
        x.addNote(0, 3, 5, false); // 8
        x.addNote(0, 1, 4, true); // 9 to 13
        x.addNote(1, 2, 4, false); // 0 to 3
        x.addRest(1, 3); // 3
        x.addNote(1, 2, 5, false); // 4 to 7
        x.addNote(1, 2, 5, false); // 7 to 10
        x.addNote(1, 1, 1, false); // 10 to 19
        Check.due("clashes(0, 1)", 4, () -> x.clashes(0, 1));
        Check.due("clashes(1, 0)", 4, () -> x.clashes(1, 0));
        Check.due("firstClash(0, 1)", 9, () -> x.firstClash(0, 1));
        Check.due("firstClash(1, 0)", 9, () -> x.firstClash(1, 0));
        Check.due("clashes(0, 0)", 0, () -> x.clashes(0, 0));
        Check.due("firstClash(1, 1)", -1, () -> x.firstClash(1, 1));
        x.setClef(1, 3); // four higher: no clash at 0, but from 8 on: 5 to 9 and 4 to 9, then 4 to 5
        Check.due("clashes(0, 1)", 3, () -> x.clashes(0, 1));
        Check.due("firstClash(0, 1)", 10, () -> x.firstClash(0, 1));
        signsThatEndTogetherDoNotCross();
        fullVoices();
    }

    /** Voices of 24 signs, one of them longer, and signs that have been erased behind the others. */
    private static void fullVoices() {
        ChoirNotes x = twoVoices();
        for (int v = 0; v < 2; v++) {
            x.setClef(v, 2);
            for (int n = 0; n < 24; n++) {
                x.addNote(v, 2, 4, false); // 2 minims each in voice 0, 3 in voice 1
            }
        }
        for (int one = 0; one < 2; one++) {
            int a = one;
            int b = 1 - one;
            Check.due("clashes of full voices", 0, () -> x.clashes(a, b));
            Check.due("firstClash of full voices", -1, () -> x.firstClash(a, b));
            Check.due("clashes of a full voice with itself", 0, () -> x.clashes(a, a));
            Check.due("firstClash of a full voice with itself", -1, () -> x.firstClash(a, a));
            Check.due("canonClashes of a full voice", a == 0 ? 47 : 71, () -> x.canonClashes(a, 1, 1));
        }
        x.erase(0);
        x.addNote(0, 2, 5, false); // 46 to 48
        Check.due("clashes(0, 1)", 2, () -> x.clashes(0, 1));
        Check.due("firstClash(1, 0)", 46, () -> x.firstClash(1, 0));
        x.erase(0);
        Check.due("clashes with an erased sign", 0, () -> x.clashes(0, 1));
        Check.due("clashes with an erased sign", 0, () -> x.clashes(1, 0));
        Check.due("firstClash with an erased sign", -1, () -> x.firstClash(0, 1));
        Check.due("firstClash with an erased sign", -1, () -> x.firstClash(1, 0));
        Check.due("fits without an erased sign", 6, () -> x.clefsThatFit(0));
    }

    /** As two signs end together, the next of one never sounds with the old one of the other. */
    private static void signsThatEndTogetherDoNotCross() {
        ChoirNotes x = new ChoirNotes();
        for (int v = 0; v < 2; v++) {
            x.addVoice(2, 2, 2);
            x.setClef(v, 2);
            x.addNote(v, 2, 4, false);
            x.addNote(v, 2, 5, false);
        }
        Check.due("clashes(0, 1)", 0, () -> x.clashes(0, 1));
        Check.due("firstClash(0, 1)", -1, () -> x.firstClash(0, 1));
        x.addNote(0, 2, 6, false);
        Check.due("firstClash with a voice that is over", -1, () -> x.firstClash(0, 1));
        x.addNote(1, 3, 6, false);
        x.addNote(1, 3, 5, false);
        Check.due("clashes(0, 1)", 1, () -> x.clashes(0, 1));
        Check.due("firstClash(0, 1)", 5, () -> x.firstClash(0, 1));
    }

    private static void promises27And28Refusals() {
        ChoirNotes x = twoVoices();
        for (int voice : FAR) {
            Check.refused("clashes", NO_SUCH, x, () -> x.clashes(voice, 0));
            Check.refused("clashes", NO_SUCH, x, () -> x.clashes(0, voice));
            Check.refused("firstClash", NO_SUCH, x, () -> x.firstClash(voice, 0));
            Check.refused("firstClash", NO_SUCH, x, () -> x.firstClash(0, voice));
        }
        Check.refused("clashes(0, 0)", NOT_NOW, x, () -> x.clashes(0, 0));
        Check.refused("firstClash(0, 1)", NOT_NOW, x, () -> x.firstClash(0, 1));
        x.setClef(0, 0);
        Check.refused("clashes(0, 1)", NOT_NOW, x, () -> x.clashes(0, 1));
        Check.refused("clashes(1, 0)", NOT_NOW, x, () -> x.clashes(1, 0));
        Check.refused("firstClash(0, 1)", NOT_NOW, x, () -> x.firstClash(0, 1));
        Check.refused("firstClash(1, 0)", NOT_NOW, x, () -> x.firstClash(1, 0));
        Check.due("clashes(0, 0)", 0, () -> x.clashes(0, 0));
    }
}
