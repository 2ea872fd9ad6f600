/** Promises 29 to 34: the calls that tell what would be. */
public final class WouldBeTest {
    private static final Class<IndexOutOfBoundsException> NO_SUCH = IndexOutOfBoundsException.class;
    private static final Class<IllegalArgumentException> BAD = IllegalArgumentException.class;
    private static final int[] FAR = {Integer.MIN_VALUE, -1, 4, Integer.MAX_VALUE};

    public static void main(String[] args) {
        ChoirNotes x = book();
        promise29ClashesWith(x);
        promise30BestClef(x);
        promise30NoneAndEqual();
        promise31CanonClashes();
        promise32BestDelay();
        promise33MeanLength();
        promise34Digest(x);
        readmeExample();
        Check.finish();
    }

    private static void readmeExample() {
        ChoirNotes book = new ChoirNotes();
        int tenor = book.addVoice(2, 3, 2);
        book.addNote(tenor, 1, 3, false);
        book.addRest(tenor, 3);
        book.addLigature(tenor, 7, 4, 6, false);
        Check.due("the length that README.md tells", 31, () -> book.length(tenor));
        Check.due("the clef that README.md tells", 0, () -> book.bestClef(tenor));
    }

    /** Three voices with two breves each, the first two with a clef, and an empty one. */
    private static ChoirNotes book() {
        ChoirNotes x = new ChoirNotes();
        for (int v = 0; v < 4; v++) {
            x.addVoice(2, 2, 2);
        }
        x.addNote(0, 1, 4, false);
        x.addNote(0, 1, 6, false);
        x.addNote(1, 1, 3, false);
        x.addNote(1, 1, 7, true);
        x.addNote(2, 1, 5, false);
        x.addNote(2, 2, 5, false);
        x.addRest(2, 2);
        x.setClef(0, 1);
        x.setClef(1, 2);
        return x;
    }

    private static void promise29ClashesWith(ChoirNotes x) {
        // Voice 0 sings 6 8 and voice 1 sings 7 11, a breve each; voice 2 would sing 5, 5, rest and so on up by 2.
        int[] due = {4 + 2 + 0 + 2, 4 + 2, 4 + 2, 2, 4, 4};
        for (int c = 0; c <= 5; c++) {
            int clef = c;
            Check.due("clashesWith(2, " + clef + ")", due[clef], () -> x.clashesWith(2, clef));
            Check.unchanged("clashesWith", x, () -> x.clashesWith(2, clef));
            // Its own clef, and a voice without one, play no part.
            int zero = 4 * clash(4 + 2 * clef - 7) + 4 * clash(6 + 2 * clef - 11);
            Check.due("clashesWith(0, " + clef + ")", zero, () -> x.clashesWith(0, clef));
            Check.due("clashesWith(3, " + clef + ")", 0, () -> x.clashesWith(3, clef));
        }
        for (int far : FAR) {
            Check.refused("clashesWith of no voice", NO_SUCH, x, () -> x.clashesWith(far, far));
        }
        for (int clef : new int[] {-1, 6, Integer.MIN_VALUE, Integer.MAX_VALUE}) {
            Check.refused("clashesWith of no clef", BAD, x, () -> x.clashesWith(0, clef));
        }
    }

    private static int clash(int difference) {
        int rest = Math.abs(difference) % 7;
        return rest == 1 || rest == 3 || rest == 6 ? 1 : 0;
    }

    private static void promise30BestClef(ChoirNotes x) {
        Check.due("bestClef(2)", 3, () -> x.bestClef(2));
        Check.unchanged("bestClef(2)", x, () -> x.bestClef(2));
        Check.due("bestClef(3) of an empty voice", 0, () -> x.bestClef(3));
        for (int far : FAR) {
            Check.refused("bestClef of no voice", NO_SUCH, x, () -> x.bestClef(far));
        }
        for (int v = 0; v < 4; v++) {
            int voice = v;
            int best = -1;
            for (int clef = 0; clef <= 5; clef++) {
                if (x.fits(v, clef) && (best < 0 || x.clashesWith(v, clef) < x.clashesWith(v, best))) {
                    best = clef;
                }
            }
            int due = best;
            Check.due("bestClef(" + v + ")", due, () -> x.bestClef(voice));
        }
    }

    /** Places 0 and 9 leave the clefs 2 and 3; no places leave none, so that no voice can bring about a -1. */
    private static void promise30NoneAndEqual() {
        ChoirNotes x = new ChoirNotes();
        x.addVoice(2, 2, 2);
        x.addLigature(0, 0, 9, -1, true);
        Check.due("bestClef of equal ones", 2, () -> x.bestClef(0));
        x.addVoice(2, 2, 2);
        x.setClef(1, 0);
        x.addNote(1, 2, 3, false); // 4 and 3 clash with the clef 2, 6 and 3 with the clef 3
        Check.due("bestClef of equally bad ones", 2, () -> x.bestClef(0));
        x.erase(1);
        x.addNote(1, 2, 1, false); // 4 and 1 clash, 6 and 1 do not
        Check.due("bestClef", 3, () -> x.bestClef(0));
        x.setClef(1, -1);
        Check.due("bestClef with a voice that has no clef", 2, () -> x.bestClef(0));
    }

    private static void promise31CanonClashes() {
        ChoirNotes x = new ChoirNotes();
        x.addVoice(2, 2, 2);
        x.addVoice(2, 2, 2);
        x.addNote(0, 1, 4, false); // 0 to 4
        x.addRest(0, 2); // 4 to 6
        x.addNote(0, 1, 5, false); // 6 to 10
        Check.due("canonClashes(0, 6, 0)", 4, () -> x.canonClashes(0, 6, 0)); // 5 and 4
        Check.due("canonClashes(0, 4, 0)", 2, () -> x.canonClashes(0, 4, 0));
        Check.due("canonClashes(0, 1, 0)", 0, () -> x.canonClashes(0, 1, 0));
        Check.due("canonClashes(0, 1, 1)", 6, () -> x.canonClashes(0, 1, 1)); // each with itself
        Check.due("canonClashes(0, 6, 1)", 0, () -> x.canonClashes(0, 6, 1)); // 5 and 5
        Check.due("canonClashes(0, 6, -2)", 4, () -> x.canonClashes(0, 6, -2)); // 5 and 2
        Check.due("canonClashes(0, 6, 2)", 4, () -> x.canonClashes(0, 6, 2)); // 5 and 6
        Check.due("canonClashes(0, 6, 4)", 4, () -> x.canonClashes(0, 6, 4)); // 5 and 8
        Check.due("canonClashes(0, 6, -4)", 0, () -> x.canonClashes(0, 6, -4)); // 5 and 0
        Check.due("canonClashes(0, 6, 7)", 4, () -> x.canonClashes(0, 6, 7)); // 5 and 11
        Check.due("canonClashes(0, 6, -7)", 4, () -> x.canonClashes(0, 6, -7)); // 5 and -3: the rest is 1
        Check.due("canonClashes(0, 9, 0)", 1, () -> x.canonClashes(0, 9, 0));
        Check.due("canonClashes(0, 10, 0)", 0, () -> x.canonClashes(0, 10, 0));
        Check.due("canonClashes(0, 48, 1)", 0, () -> x.canonClashes(0, 48, 1));
        Check.due("canonClashes of an empty voice", 0, () -> x.canonClashes(1, 1, 1));
        x.setClef(0, 5);
        Check.due("canonClashes(0, 6, 0) with a clef", 4, () -> x.canonClashes(0, 6, 0));
        Check.unchanged("canonClashes", x, () -> x.canonClashes(0, 3, 3));
        for (int far : FAR) {
            int voice = far == 4 ? 2 : far;
            Check.refused("canonClashes of no voice", NO_SUCH, x, () -> x.canonClashes(voice, 0, 8));
        }
        for (int delay : new int[] {0, 49, -1, Integer.MIN_VALUE, Integer.MAX_VALUE}) {
            Check.refused("canonClashes of no delay", BAD, x, () -> x.canonClashes(0, delay, 0));
        }
        for (int up : new int[] {-8, 8, Integer.MIN_VALUE, Integer.MAX_VALUE}) {
            Check.refused("canonClashes so high", BAD, x, () -> x.canonClashes(0, 1, up));
        }
    }

    private static void promise32BestDelay() {
        ChoirNotes x = new ChoirNotes();
        x.addVoice(2, 2, 2);
        Check.due("bestDelay of an empty voice", 1, () -> x.bestDelay(0, 0));
        x.addNote(0, 0, 4, false); // 0 to 8
        Check.due("bestDelay(0, 0)", 1, () -> x.bestDelay(0, 0));
        Check.due("bestDelay(0, 1)", 8, () -> x.bestDelay(0, 1));
        Check.due("bestDelay(0, -6)", 8, () -> x.bestDelay(0, -6));
        Check.due("bestDelay(0, 7)", 1, () -> x.bestDelay(0, 7));
        x.addNote(0, 0, 4, false);
        Check.due("bestDelay(0, 1)", 16, () -> x.bestDelay(0, 1));
        x.setMensuration(0, 3, 3, 3);
        Check.due("bestDelay of a voice longer than any delay", 48, () -> x.bestDelay(0, 1));
        Check.unchanged("bestDelay", x, () -> x.bestDelay(0, 1));
        for (int far : FAR) {
            int voice = far == 4 ? 1 : far;
            Check.refused("bestDelay of no voice", NO_SUCH, x, () -> x.bestDelay(voice, 8));
        }
        for (int up : new int[] {-8, 8, Integer.MIN_VALUE, Integer.MAX_VALUE}) {
            Check.refused("bestDelay so high", BAD, x, () -> x.bestDelay(0, up));
        }
    }

    private static void promise33MeanLength() {
        ChoirNotes x = new ChoirNotes();
        Check.due("meanLength() without voices", 0.0, () -> x.meanLength());
        x.addVoice(2, 2, 3);
        Check.due("meanLength() of an empty voice", 0.0, () -> x.meanLength());
        x.addRest(0, 2);
        Check.due("meanLength()", 3.0, () -> x.meanLength());
        x.addVoice(2, 2, 2);
        Check.due("meanLength()", 1.5, () -> x.meanLength());
        x.addVoice(2, 2, 2);
        x.addRest(2, 3);
        x.addRest(2, 3);
        Check.due("meanLength()", 5.0 / 3.0, () -> x.meanLength());
        x.addVoice(2, 2, 2);
        Check.due("meanLength()", 1.25, () -> x.meanLength());
    }

    private static void promise34Digest(ChoirNotes x) {
        ChoirNotes empty = new ChoirNotes();
        Check.due("digest() without voices", 2311L * 31 * 31, () -> empty.digest());
        Check.due("digest()", digestByCalls(x), () -> x.digest());
        x.addLigature(3, 7, 4, 6, false);
        x.addLigature(3, 6, 4, -1, true);
        x.recolour(3, 1);
        x.addRest(1, 0);
        x.setMensuration(2, 3, 3, 2);
        Check.due("digest()", digestByCalls(x), () -> x.digest());
        Check.unchanged("digest()", x, () -> x.digest());
    }

    private static long digestByCalls(ChoirNotes x) {
        long d = (2311L * 31 + x.voices()) * 31 + x.longest();
        for (int v = 0; v < x.voices(); v++) {
            int[] ofVoice = {x.signs(v), x.notes(v), x.ligatures(v), x.length(v), x.clefOf(v),
                x.clefsThatFit(v), x.bestClef(v), x.canonClashes(v, 4, 0), x.bestDelay(v, 4)};
            for (int number : ofVoice) {
                d = d * 31 + number;
            }
            for (int s = 0; s < x.signs(v); s++) {
                int[] ofSign = {x.kindOf(v, s), x.placeOf(v, s), x.placeInLigature(v, s), x.lengthOf(v, s),
                    x.beginOf(v, s)};
                for (int number : ofSign) {
                    d = d * 31 + number;
                }
            }
        }
        return d;
    }
}
