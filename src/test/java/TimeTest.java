/** Promises 18 to 22: the calls that tell of time. */
public final class TimeTest {
    private static final Class<IndexOutOfBoundsException> NO_SUCH = IndexOutOfBoundsException.class;
    private static final Class<IllegalArgumentException> BAD = IllegalArgumentException.class;

    public static void main(String[] args) {
        promise18LengthOf();
        ChoirNotes x = book();
        promises19And20(x);
        promise21Longest();
        promise22SignAt(x);
        refusals(x);
        Check.finish();
    }

    /** The signs of voice 0 last 12, 6, 3, 2, 1, 1 minims, voice 1 is empty. */
    private static ChoirNotes book() {
        ChoirNotes x = new ChoirNotes();
        x.addVoice(2, 2, 3);
        x.addVoice(2, 2, 2);
        x.addNote(0, 0, 4, false);
        x.addNote(0, 1, 4, true);
        x.addRest(0, 2);
        x.addNote(0, 2, 4, true);
        x.addNote(0, 3, 4, true);
        x.addRest(0, 3);
        return x;
    }

    private static void promise18LengthOf() {
        for (int m = 0; m < 8; m++) {
            int b = 2 + m / 4;
            int s = 2 + m / 2 % 2;
            int n = 2 + m % 2;
            ChoirNotes x = new ChoirNotes();
            x.addVoice(b, s, n);
            int[] plain = {b * s * n, s * n, n, 1};
            int[] coloured = {2 * s * n, 2 * n, 2, 1};
            for (int kind = 0; kind < 4; kind++) {
                int number = 3 * kind;
                x.addNote(0, kind, 0, false);
                x.addNote(0, kind, 0, true);
                x.addRest(0, kind);
                Check.due("lengthOf a note", plain[kind], () -> x.lengthOf(0, number));
                Check.due("lengthOf a coloured note", coloured[kind], () -> x.lengthOf(0, number + 1));
                Check.due("lengthOf a rest", plain[kind], () -> x.lengthOf(0, number + 2));
            }
        }
    }

    private static void promises19And20(ChoirNotes x) {
        int[] begins = {0, 12, 18, 21, 23, 24};
        for (int s = 0; s < begins.length; s++) {
            int sign = s;
            Check.due("beginOf(0, " + s + ")", begins[s], () -> x.beginOf(0, sign));
        }
        Check.due("length(0)", 25, () -> x.length(0));
        Check.due("length(1)", 0, () -> x.length(1));
    }

    private static void promise21Longest() {
        ChoirNotes x = new ChoirNotes();
        Check.due("longest() without voices", 0, () -> x.longest());
        x.addVoice(3, 3, 3);
        Check.due("longest() of an empty voice", 0, () -> x.longest());
        x.addRest(0, 1);
        x.addVoice(3, 3, 3);
        x.addRest(1, 0);
        x.addVoice(3, 3, 3);
        x.addRest(2, 2);
        Check.due("longest()", 27, () -> x.longest());
        x.erase(1);
        Check.due("longest()", 9, () -> x.longest());
        x.addVoice(3, 3, 3);
        for (int i = 0; i < 24; i++) {
            x.addRest(3, 0);
        }
        Check.due("longest() of the longest voice that there may be", 648, () -> x.longest());
    }

    private static void promise22SignAt(ChoirNotes x) {
        int[] ends = {12, 18, 21, 23, 24, 25};
        int time = 0;
        for (int s = 0; s < ends.length; s++) {
            for (; time < ends[s]; time++) {
                int now = time;
                Check.due("signAt(0, " + time + ")", s, () -> x.signAt(0, now));
            }
        }
        Check.due("signAt as the voice ends", -1, () -> x.signAt(0, 25));
        Check.due("signAt long after", -1, () -> x.signAt(0, Integer.MAX_VALUE));
        Check.due("signAt of an empty voice", -1, () -> x.signAt(1, 0));
        Check.refused("signAt(0, -1)", BAD, x, () -> x.signAt(0, -1));
        Check.refused("signAt(0, far)", BAD, x, () -> x.signAt(0, Integer.MIN_VALUE));
        Check.refused("signAt(2, -1)", NO_SUCH, x, () -> x.signAt(2, -1));
        Check.refused("signAt(-1, 0)", NO_SUCH, x, () -> x.signAt(-1, 0));
        x.addNote(0, 3, 1, false);
        x.erase(0);
        Check.due("signAt behind an erased sign", -1, () -> x.signAt(0, 25));
    }

    private static void refusals(ChoirNotes x) {
        for (int voice : new int[] {-1, 2, 4, Integer.MIN_VALUE, Integer.MAX_VALUE}) {
            Check.refused("lengthOf", NO_SUCH, x, () -> x.lengthOf(voice, 0));
            Check.refused("beginOf", NO_SUCH, x, () -> x.beginOf(voice, 0));
            Check.refused("length", NO_SUCH, x, () -> x.length(voice));
        }
        for (int sign : new int[] {-1, 6, 24, Integer.MIN_VALUE, Integer.MAX_VALUE}) {
            Check.refused("lengthOf", NO_SUCH, x, () -> x.lengthOf(0, sign));
            Check.refused("beginOf", NO_SUCH, x, () -> x.beginOf(0, sign));
        }
        Check.refused("lengthOf(1, 0)", NO_SUCH, x, () -> x.lengthOf(1, 0));
        Check.refused("beginOf(1, 0)", NO_SUCH, x, () -> x.beginOf(1, 0));
    }
}
