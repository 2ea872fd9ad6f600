/** All that a book answers about its state, as one text, to see whether a call changed something. */
final class Picture {
    private Picture() {
    }

    static String of(ChoirNotes x) {
        StringBuilder text = new StringBuilder("voices " + x.voices() + " longest " + x.longest());
        for (int v = 0; v < x.voices(); v++) {
            text.append(" | voice ").append(x.signs(v)).append(' ').append(x.notes(v)).append(' ')
                    .append(x.ligatures(v)).append(' ').append(x.length(v)).append(' ').append(x.clefOf(v))
                    .append(' ').append(x.clefsThatFit(v)).append(' ').append(mensuration(x, v));
            for (int s = 0; s < x.signs(v); s++) {
                text.append(" (").append(x.kindOf(v, s)).append(' ').append(x.placeOf(v, s)).append(' ')
                        .append(x.isColoured(v, s)).append(' ').append(x.placeInLigature(v, s)).append(' ')
                        .append(x.lengthOf(v, s)).append(' ').append(x.beginOf(v, s)).append(')');
            }
        }
        return text.append(" | digest ").append(x.digest()).toString();
    }

    /** What three rests behind the other signs last tells the mensuration; they are erased again. */
    private static String mensuration(ChoirNotes x, int voice) {
        StringBuilder text = new StringBuilder();
        for (int kind = 0; kind < 3 && x.signs(voice) < 24; kind++) {
            int rest = x.addRest(voice, kind);
            text.append(x.lengthOf(voice, rest)).append(':');
            x.erase(voice);
        }
        return text.toString();
    }
}
