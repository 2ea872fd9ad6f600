/** All that a book answers about its state, as one text, to see whether a call changed something. */
final class Picture {
    private Picture() {
    }

    static String of(ChoirNotes x) {
        StringBuilder text = new StringBuilder("voices " + x.voices() + " longest " + x.longest()
                + " mean " + x.meanLength());
        for (int v = 0; v < x.voices(); v++) {
            text.append(" | voice ").append(x.signs(v)).append(' ').append(x.notes(v)).append(' ')
                    .append(x.ligatures(v)).append(' ').append(x.length(v)).append(' ').append(x.clefOf(v))
                    .append(' ').append(x.clefsThatFit(v)).append(' ').append(mensuration(x, v));
            signs(text, x, v);
            wouldBe(text, x, v);
        }
        return text.append(" | digest ").append(x.digest()).toString();
    }

    private static void signs(StringBuilder text, ChoirNotes x, int v) {
        int count = x.signs(v);
        for (int s = 0; s < count; s++) {
            int sign = s;
            text.append(" (").append(x.kindOf(v, s)).append(' ').append(x.placeOf(v, s)).append(' ')
                    .append(x.isColoured(v, s)).append(' ').append(x.placeInLigature(v, s)).append(' ')
                    .append(x.lengthOf(v, s)).append(' ').append(x.beginOf(v, s)).append(' ')
                    .append(Check.outcome(() -> x.pitchOf(v, sign))).append(')');
        }
        text.append(" at ").append(x.signAt(v, 0)).append(' ').append(x.signAt(v, 7)).append(' ')
                .append(x.signAt(v, x.length(v)));
    }

    private static void wouldBe(StringBuilder text, ChoirNotes x, int v) {
        text.append(" clefs ").append(x.bestClef(v));
        for (int clef = 0; clef <= 5; clef++) {
            text.append(x.fits(v, clef) ? " + " : " - ").append(x.clashesWith(v, clef));
        }
        for (int w = 0; w < x.voices(); w++) {
            int other = w;
            text.append(" clashes ").append(Check.outcome(() -> x.clashes(v, other))).append(' ')
                    .append(Check.outcome(() -> x.firstClash(v, other)));
        }
        text.append(" canon ").append(x.canonClashes(v, 1, 1)).append(' ').append(x.canonClashes(v, 5, -2))
                .append(' ').append(x.bestDelay(v, 0)).append(' ').append(x.bestDelay(v, 3));
    }

    /** What three rests behind the other signs last tells the mensuration; they are erased again. */
    private static String mensuration(ChoirNotes x, int voice) {
        StringBuilder text = new StringBuilder();
        for (int kind = 0; kind < 3 && x.signs(voice) < 24; kind++) {
            int rest = x.addRest(voice, kind);
            text.append(x.lengthOf(voice, rest)).append(':');
            x.erase(voice);
        }
        return text.toString();
    }
}
