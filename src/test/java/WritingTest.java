/** Promises 1 to 9: a new object, and the calls that write. */
public final class WritingTest {
    private static final Class<IndexOutOfBoundsException> NO_SUCH = IndexOutOfBoundsException.class;
    private static final Class<IllegalArgumentException> BAD = IllegalArgumentException.class;
    private static final Class<IllegalStateException> NOT_NOW = IllegalStateException.class;
    private static final int[] FAR = {Integer.MIN_VALUE, -1, 4, 5, Integer.MAX_VALUE};

    public static void main(String[] args) {
        promise1NewObject();
        promise2AddVoice();
        promise3AddNote();
        promise4AddRest();
        promise5AddLigature();
        promise5LigatureKinds();
        promise5LigatureRefusals();
        promise6Erase();
        promise7Recolour();
        promise8SetClef();
        promise9SetMensuration();
        Check.finish();
    }

    /** A voice with as many semibreve rests. */
    private static ChoirNotes withRests(int rests) {
        ChoirNotes x = new ChoirNotes();
        x.addVoice(2, 2, 2);
        for (int i = 0; i < rests; i++) {
            x.addRest(0, 2);
        }
        return x;
    }

    private static void promise1NewObject() {
        ChoirNotes x = new ChoirNotes();
        Check.due("voices()", 0, () -> x.voices());
        Check.due("longest()", 0, () -> x.longest());
        Check.refused("signs(0)", NO_SUCH, x, () -> x.signs(0));
        ChoirNotes other = new ChoirNotes();
        other.addVoice(2, 2, 2);
        Check.due("voices() of one after addVoice of another", 0, () -> x.voices());
    }

    private static void promise2AddVoice() {
        ChoirNotes x = new ChoirNotes();
        int[][] wrong = {{1, 2, 2}, {4, 2, 2}, {2, 1, 2}, {2, 4, 2}, {2, 2, 1}, {2, 2, 4}, {0, 3, 3},
            {-2, 3, 3}, {3, Integer.MAX_VALUE, 3}, {3, 3, Integer.MIN_VALUE}};
        for (int[] w : wrong) {
            Check.refused("addVoice of a wrong number", BAD, x, () -> x.addVoice(w[0], w[1], w[2]));
        }
        int[][] mensurations = {{2, 3, 2}, {3, 2, 3}, {3, 3, 3}, {2, 2, 2}};
        for (int v = 0; v < 4; v++) {
            int voice = v;
            int[] m = mensurations[v];
            Check.due("addVoice", voice, () -> x.addVoice(m[0], m[1], m[2]));
            Check.due("voices()", voice + 1, () -> x.voices());
            Check.due("signs of a new voice", 0, () -> x.signs(voice));
            Check.due("length of a new voice", 0, () -> x.length(voice));
            Check.due("clefOf a new voice", -1, () -> x.clefOf(voice));
        }
        Check.refused("addVoice of a fifth", NOT_NOW, x, () -> x.addVoice(2, 2, 2));
        Check.refused("addVoice of a wrong fifth", BAD, x, () -> x.addVoice(2, 2, 4));
        for (int v = 0; v < 4; v++) {
            int voice = v;
            int[] m = mensurations[v];
            x.addRest(v, 0);
            x.addRest(v, 1);
            x.addRest(v, 2);
            Check.due("a longa rest's length", m[0] * m[1] * m[2], () -> x.lengthOf(voice, 0));
            Check.due("a breve rest's length", m[1] * m[2], () -> x.lengthOf(voice, 1));
            Check.due("a semibreve rest's length", m[2], () -> x.lengthOf(voice, 2));
        }
    }

    private static void promise3AddNote() {
        ChoirNotes x = withRests(0);
        Check.refused("addNote(1, ..)", NO_SUCH, x, () -> x.addNote(1, 0, 0, false));
        for (int far : FAR) {
            Check.refused("addNote of no voice", NO_SUCH, x, () -> x.addNote(far, far, far, true));
            Check.refused("addNote of no kind", BAD, x, () -> x.addNote(0, far, 0, true));
            int place = far == 4 || far == 5 ? 10 : far;
            Check.refused("addNote of no place", BAD, x, () -> x.addNote(0, 0, place, true));
        }
        for (int n = 0; n < 24; n++) {
            int number = n;
            Check.due("addNote", number, () -> x.addNote(0, number % 4, number % 10, number % 3 == 0));
            Check.due("signs(0)", number + 1, () -> x.signs(0));
        }
        for (int n = 0; n < 24; n++) {
            int number = n;
            Check.due("kindOf", number % 4, () -> x.kindOf(0, number));
            Check.due("placeOf", number % 10, () -> x.placeOf(0, number));
            Check.due("isColoured", number % 3 == 0, () -> x.isColoured(0, number));
            Check.due("placeInLigature", -1, () -> x.placeInLigature(0, number));
        }
        Check.refused("addNote of a 25th", NOT_NOW, x, () -> x.addNote(0, 0, 0, false));
        Check.refused("addNote of a wrong 25th", BAD, x, () -> x.addNote(0, 4, 0, false));
        Check.refused("addNote of a 25th with no place", BAD, x, () -> x.addNote(0, 0, -1, false));
    }

    private static void promise4AddRest() {
        ChoirNotes x = withRests(0);
        Check.refused("addRest(1, 0)", NO_SUCH, x, () -> x.addRest(1, 0));
        for (int far : FAR) {
            Check.refused("addRest of no voice", NO_SUCH, x, () -> x.addRest(far, far));
            Check.refused("addRest of no kind", BAD, x, () -> x.addRest(0, far));
        }
        for (int n = 0; n < 24; n++) {
            int number = n;
            Check.due("addRest", number, () -> x.addRest(0, number % 4));
            Check.due("kindOf", number % 4, () -> x.kindOf(0, number));
            Check.due("placeOf", -1, () -> x.placeOf(0, number));
            Check.due("isColoured", false, () -> x.isColoured(0, number));
            Check.due("placeInLigature", -1, () -> x.placeInLigature(0, number));
            Check.due("signs(0)", number + 1, () -> x.signs(0));
        }
        Check.refused("addRest of a 25th", NOT_NOW, x, () -> x.addRest(0, 0));
        Check.refused("addRest of a wrong 25th", BAD, x, () -> x.addRest(0, 4));
        coloursAreNotLeftBehind();
    }

    /** A sign stands where an erased one stood, and has nothing of it. */
    private static void coloursAreNotLeftBehind() {
        ChoirNotes x = withRests(0);
        x.addNote(0, 1, 5, true);
        x.erase(0);
        x.addRest(0, 1);
        Check.due("isColoured of a rest where a coloured note was", false, () -> x.isColoured(0, 0));
        Check.due("lengthOf a rest where a coloured note was", 4, () -> x.lengthOf(0, 0));
        x.erase(0);
        x.addLigature(0, 1, 2, 3, false);
        x.recolour(0, 2);
        x.erase(0);
        x.addLigature(0, 3, 2, 1, false);
        Check.due("isColoured of a ligature's note there", false, () -> x.isColoured(0, 2));
        x.erase(0);
        x.addNote(0, 3, 1, false);
        Check.due("placeInLigature of a note where a ligature was", -1, () -> x.placeInLigature(0, 0));
        Check.due("ligatures(0)", 0, () -> x.ligatures(0));
    }

    private static void promise5AddLigature() {
        ChoirNotes x = withRests(0);
        Check.due("addLigature of two", 0, () -> x.addLigature(0, 5, 3, -1, false));
        Check.due("signs(0)", 2, () -> x.signs(0));
        Check.due("addLigature of three on the last one's place", 2, () -> x.addLigature(0, 3, 9, 0, true));
        Check.due("signs(0)", 5, () -> x.signs(0));
        Check.due("addLigature that comes back to its first place", 5, () -> x.addLigature(0, 4, 5, 4, false));
        Check.due("ligatures(0)", 3, () -> x.ligatures(0));
        int[] places = {5, 3, 3, 9, 0, 4, 5, 4};
        int[] ranks = {0, 1, 0, 1, 2, 0, 1, 2};
        for (int s = 0; s < places.length; s++) {
            int sign = s;
            Check.due("placeOf", places[s], () -> x.placeOf(0, sign));
            Check.due("placeInLigature", ranks[s], () -> x.placeInLigature(0, sign));
            Check.due("isColoured", false, () -> x.isColoured(0, sign));
        }
    }

    /** Kinds by the shape, written out: 0 longa, 1 breve, 2 semibreve. */
    private static void promise5LigatureKinds() {
        kinds("two down", 5, 3, -1, false, 0, 0);
        kinds("two up", 3, 5, -1, false, 1, 1);
        kinds("two down with a stem", 5, 3, -1, true, 2, 2);
        kinds("two up with a stem", 3, 5, -1, true, 2, 2);
        kinds("three down", 9, 5, 0, false, 0, 1, 0);
        kinds("three up", 0, 5, 9, false, 1, 1, 1);
        kinds("down, up", 5, 4, 6, false, 0, 1, 1);
        kinds("up, down", 4, 5, 3, false, 1, 1, 0);
        kinds("three down with a stem", 9, 5, 0, true, 2, 2, 0);
        kinds("three up with a stem", 0, 5, 9, true, 2, 2, 1);
        kinds("down, up with a stem", 5, 4, 6, true, 2, 2, 1);
        kinds("up, down with a stem", 4, 5, 0, true, 2, 2, 0);
        for (int first = 0; first <= 9; first++) {
            for (int second = 0; second <= 9; second++) {
                if (first != second) {
                    int a = first;
                    int b = second;
                    int two = b < a ? 0 : 1;
                    kinds("two", a, b, -1, false, two, two);
                    kinds("two with a stem", a, b, -1, true, 2, 2);
                }
            }
        }
    }

    private static void kinds(String shape, int first, int second, int third, boolean hasStem, int... due) {
        ChoirNotes x = withRests(1);
        x.addLigature(0, first, second, third, hasStem);
        Check.due("signs with " + shape, due.length + 1, () -> x.signs(0));
        for (int i = 0; i < due.length; i++) {
            int sign = i + 1;
            Check.due("kind " + i + " of " + shape, due[i], () -> x.kindOf(0, sign));
        }
    }

    private static void promise5LigatureRefusals() {
        ChoirNotes x = withRests(0);
        Check.refused("addLigature(1, ..)", NO_SUCH, x, () -> x.addLigature(1, 3, 3, 3, true));
        int[][] wrong = {{-1, 4, 5}, {10, 4, 5}, {4, -1, 5}, {4, 10, 5}, {4, 5, -2}, {4, 5, 10}, {3, 3, -1},
            {3, 3, 4}, {3, 4, 4}, {4, -1, -1}, {Integer.MIN_VALUE, 1, 2}, {1, Integer.MAX_VALUE, 2},
            {1, 2, Integer.MAX_VALUE}, {1, 2, Integer.MIN_VALUE}};
        for (int[] w : wrong) {
            Check.refused("addLigature of wrong places", BAD, x, () -> x.addLigature(0, w[0], w[1], w[2], false));
            Check.refused("addLigature of wrong places", BAD, x, () -> x.addLigature(0, w[0], w[1], w[2], true));
        }
        for (int far : FAR) {
            Check.refused("addLigature of no voice", NO_SUCH, x, () -> x.addLigature(far, 1, 2, 3, false));
        }
        ChoirNotes room2 = withRests(22);
        Check.refused("a third note too many", NOT_NOW, room2, () -> room2.addLigature(0, 1, 2, 3, false));
        Check.refused("wrong places, too many", BAD, room2, () -> room2.addLigature(0, 1, 1, 3, false));
        Check.due("two notes into the last room", 22, () -> room2.addLigature(0, 1, 2, -1, false));
        ChoirNotes room3 = withRests(21);
        Check.due("three notes into the last room", 21, () -> room3.addLigature(0, 1, 2, 3, true));
        Check.due("signs(0)", 24, () -> room3.signs(0));
        ChoirNotes room1 = withRests(23);
        Check.refused("a second note too many", NOT_NOW, room1, () -> room1.addLigature(0, 1, 2, -1, true));
        ChoirNotes full = withRests(24);
        Check.refused("both notes too many", NOT_NOW, full, () -> full.addLigature(0, 1, 2, -1, true));
    }

    private static void promise6Erase() {
        ChoirNotes x = withRests(0);
        Check.refused("erase(0) of nothing", NOT_NOW, x, () -> x.erase(0));
        Check.refused("erase(1)", NO_SUCH, x, () -> x.erase(1));
        Check.refused("erase(-1)", NO_SUCH, x, () -> x.erase(-1));
        x.addNote(0, 1, 4, false);
        x.addLigature(0, 1, 2, 3, false);
        x.addLigature(0, 4, 3, -1, true);
        x.addRest(0, 3);
        Check.due("length(0)", 4 + 12 + 4 + 1, () -> x.length(0));
        int[] erased = {1, 2, 3, 1};
        int[] left = {6, 4, 1, 0};
        int[] lengths = {20, 16, 4, 0};
        for (int i = 0; i < erased.length; i++) {
            int now = i;
            Check.due("erase(0)", erased[now], () -> x.erase(0));
            Check.due("signs(0)", left[now], () -> x.signs(0));
            Check.due("length(0)", lengths[now], () -> x.length(0));
        }
        Check.refused("erase(0) of nothing any more", NOT_NOW, x, () -> x.erase(0));
        x.addVoice(2, 2, 2);
        x.addRest(0, 3);
        Check.refused("erase(1) of an empty voice", NOT_NOW, x, () -> x.erase(1));
    }

    private static void promise7Recolour() {
        ChoirNotes x = new ChoirNotes();
        x.addVoice(3, 3, 3);
        x.addNote(0, 1, 4, false);
        x.addRest(0, 1);
        x.addLigature(0, 5, 3, -1, false);
        Check.refused("recolour(1, 0)", NO_SUCH, x, () -> x.recolour(1, 0));
        Check.refused("recolour(-1, 0)", NO_SUCH, x, () -> x.recolour(-1, 0));
        Check.refused("recolour(0, -1)", NO_SUCH, x, () -> x.recolour(0, -1));
        Check.refused("recolour(0, 4)", NO_SUCH, x, () -> x.recolour(0, 4));
        Check.refused("recolour(0, 1) of a rest", NOT_NOW, x, () -> x.recolour(0, 1));
        Check.due("recolour(0, 0)", true, () -> x.recolour(0, 0));
        Check.due("isColoured(0, 0)", true, () -> x.isColoured(0, 0));
        Check.due("lengthOf(0, 0)", 6, () -> x.lengthOf(0, 0));
        Check.due("beginOf(0, 2)", 15, () -> x.beginOf(0, 2));
        Check.due("recolour(0, 3) of a ligature's note", true, () -> x.recolour(0, 3));
        Check.due("kindOf(0, 3)", 0, () -> x.kindOf(0, 3));
        Check.due("lengthOf(0, 3)", 18, () -> x.lengthOf(0, 3));
        Check.due("isColoured(0, 2)", false, () -> x.isColoured(0, 2));
        Check.due("length(0)", 6 + 9 + 27 + 18, () -> x.length(0));
        Check.due("recolour(0, 0) once more", false, () -> x.recolour(0, 0));
        Check.due("lengthOf(0, 0)", 9, () -> x.lengthOf(0, 0));
        Check.due("length(0)", 9 + 9 + 27 + 18, () -> x.length(0));
    }

    private static void promise8SetClef() {
        ChoirNotes x = withRests(0);
        x.addVoice(2, 2, 2);
        Check.refused("setClef(2, 0)", NO_SUCH, x, () -> x.setClef(2, 0));
        Check.refused("setClef(-1, 6)", NO_SUCH, x, () -> x.setClef(-1, 6));
        Check.refused("setClef(0, 6)", BAD, x, () -> x.setClef(0, 6));
        Check.refused("setClef(0, -2)", BAD, x, () -> x.setClef(0, -2));
        Check.refused("setClef(0, far)", BAD, x, () -> x.setClef(0, Integer.MAX_VALUE));
        int before = -1;
        for (int clef : new int[] {0, 5, 5, 3, -1, -1, 1, 2, 4}) {
            int old = before;
            Check.due("setClef", old, () -> x.setClef(0, clef));
            Check.due("clefOf(0)", clef, () -> x.clefOf(0));
            Check.due("clefOf(1)", -1, () -> x.clefOf(1));
            before = clef;
        }
    }

    private static void promise9SetMensuration() {
        ChoirNotes x = new ChoirNotes();
        x.addVoice(2, 2, 2);
        x.addNote(0, 0, 1, false);
        x.addNote(0, 0, 1, true);
        x.addRest(0, 1);
        x.addNote(0, 1, 1, true);
        x.addNote(0, 2, 1, false);
        x.addNote(0, 2, 1, true);
        x.addNote(0, 3, 1, false);
        x.addVoice(2, 2, 2);
        x.addRest(1, 0);
        Check.refused("setMensuration(2, ..)", NO_SUCH, x, () -> x.setMensuration(2, 4, 4, 4));
        Check.refused("setMensuration(-1, ..)", NO_SUCH, x, () -> x.setMensuration(-1, 2, 2, 2));
        int[][] wrong = {{1, 3, 3}, {4, 3, 3}, {3, 1, 3}, {3, 4, 3}, {3, 3, 1}, {3, 3, 4}, {3, 3, 0}};
        for (int[] w : wrong) {
            Check.refused("setMensuration of a wrong number", BAD, x, () -> x.setMensuration(0, w[0], w[1], w[2]));
        }
        for (int m = 0; m < 8; m++) {
            int b = 2 + m / 4;
            int s = 2 + m / 2 % 2;
            int n = 2 + m % 2;
            int due = b * s * n + 2 * s * n + s * n + 2 * n + n + 2 + 1;
            Check.due("setMensuration", due, () -> x.setMensuration(0, b, s, n));
            Check.due("length(0)", due, () -> x.length(0));
            Check.due("beginOf(0, 6)", due - 1, () -> x.beginOf(0, 6));
            Check.due("length(1)", 8, () -> x.length(1));
        }
        ChoirNotes empty = withRests(0);
        Check.due("setMensuration of an empty voice", 0, () -> empty.setMensuration(0, 3, 3, 3));
    }
}
