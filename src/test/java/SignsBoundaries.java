/** The boundaries of promises 10 to 17. */
final class SignsBoundaries {
    private static final String NO_SUCH_VOICE = "Throws `IndexOutOfBoundsException` if there is no such voice";
    private static final String NO_SUCH_SIGN = NO_SUCH_VOICE + ", or it has no such sign";

    private SignsBoundaries() {
    }

    static void all() {
        promise10();
        promise11();
        promise12();
        promise13();
        promise14();
        promise15();
        promise16();
        promise17();
    }

    private static void promise10() {
        Boundary.test(10, "Returns how many voices there are.", () -> {
            for (int n = 0; n <= 4; n++) {
                int voices = n;
                Boundary.answers("voices()", n, () -> Boundary.emptyVoices(voices), x -> x.voices());
                Boundary.answers("voices()", n, () -> Boundary.ready(voices), x -> x.voices());
            }
        });
    }

    private static void promise11() {
        Boundary.test(11, "Returns how many signs it has.", () -> {
            for (int n = 0; n <= 24; n++) {
                int count = n;
                Boundary.answers("signs(0)", n, () -> Boundary.notes(count), x -> x.signs(0));
            }
            Boundary.answers("signs of 24 rests", 24, () -> rests(24), x -> x.signs(0));
            Boundary.answers("signs of 8 ligatures of three", 24, () -> ligatures(8, 3), x -> x.signs(0));
            Boundary.answers("signs of 12 ligatures of two", 24, () -> ligatures(12, 2), x -> x.signs(0));
        });
        Boundary.test(11, NO_SUCH_VOICE, () -> Boundary.refusesNoVoice("signs", (x, voice) -> x.signs(voice)));
    }

    private static ChoirNotes rests(int count) {
        ChoirNotes x = Boundary.notes(0);
        for (int n = 0; n < count; n++) {
            x.addRest(0, n % 4);
        }
        return x;
    }

    private static ChoirNotes ligatures(int count, int notes) {
        ChoirNotes x = Boundary.notes(0);
        for (int n = 0; n < count; n++) {
            x.addLigature(0, 4, 3, notes == 3 ? 5 : -1, n % 2 == 0);
        }
        return x;
    }

    private static void promise12() {
        Boundary.test(12, "Returns how many of them are notes.", () -> {
            for (int n : new int[] {0, 1, 2, 23, 24}) {
                Boundary.answers("notes of " + n + " notes", n, () -> Boundary.notes(n), x -> x.notes(0));
                Boundary.answers("notes of " + n + " rests", 0, () -> rests(n), x -> x.notes(0));
            }
            Boundary.answers("notes of 23 rests and a note on place 0", 1, () -> {
                ChoirNotes x = rests(23);
                x.addNote(0, 3, 0, true);
                return x;
            }, x -> x.notes(0));
            Boundary.answers("notes of 23 notes and a rest", 23, () -> {
                ChoirNotes x = Boundary.notes(23);
                x.addRest(0, 3);
                return x;
            }, x -> x.notes(0));
            Boundary.answers("notes of 8 ligatures of three", 24, () -> ligatures(8, 3), x -> x.notes(0));
            Boundary.answers("notes after an erase", 21, () -> {
                ChoirNotes x = ligatures(8, 3);
                x.erase(0);
                return x;
            }, x -> x.notes(0));
        });
        Boundary.test(12, NO_SUCH_VOICE, () -> Boundary.refusesNoVoice("notes", (x, voice) -> x.notes(voice)));
    }

    private static void promise13() {
        Boundary.test(13, "Returns how many ligatures it has.", () -> {
            for (int n = 0; n <= 12; n++) {
                int count = n;
                Boundary.answers("ligatures of two", n, () -> ligatures(count, 2), x -> x.ligatures(0));
                if (n <= 8) {
                    Boundary.answers("ligatures of three", n, () -> ligatures(count, 3), x -> x.ligatures(0));
                }
            }
            Boundary.answers("ligatures of 24 notes", 0, () -> Boundary.notes(24), x -> x.ligatures(0));
            Boundary.answers("ligatures of 24 rests", 0, () -> rests(24), x -> x.ligatures(0));
            Boundary.answers("ligatures after an erase", 7, () -> {
                ChoirNotes x = ligatures(8, 3);
                x.erase(0);
                return x;
            }, x -> x.ligatures(0));
            Boundary.answers("ligatures after every erase", 0, () -> {
                ChoirNotes x = ligatures(1, 2);
                x.erase(0);
                return x;
            }, x -> x.ligatures(0));
            Boundary.answers("ligatures whose notes are coloured", 1, () -> {
                ChoirNotes x = ligatures(1, 2);
                x.recolour(0, 0);
                x.recolour(0, 1);
                return x;
            }, x -> x.ligatures(0));
        });
        Boundary.test(13, NO_SUCH_VOICE, () -> Boundary.refusesNoVoice("ligatures", (x, voice) -> x.ligatures(voice)));
    }

    /** A note and a rest of each kind, 0 to 3, then a ligature: longa, breve, breve, and one: semibreve, semibreve. */
    private static ChoirNotes mixed() {
        ChoirNotes x = Boundary.emptyVoices(1);
        for (int kind = 0; kind < 4; kind++) {
            x.addNote(0, kind, 3 * kind, kind % 2 == 0);
            x.addRest(0, kind);
        }
        x.addLigature(0, 9, 0, 1, false);
        x.addLigature(0, 1, 0, -1, true);
        return x;
    }

    private static void eachSign(String call, Object[] due, Boundary.SignAsk ask) {
        for (int s = 0; s < due.length; s++) {
            int sign = s;
            Boundary.answers(call + "(0, " + s + ")", due[s], SignsBoundaries::mixed, x -> ask.of(x, 0, sign));
        }
    }

    private static void promise14() {
        Boundary.test(14, "Returns its kind.", () -> eachSign("kindOf",
                new Object[] {0, 0, 1, 1, 2, 2, 3, 3, 0, 1, 1, 2, 2}, (x, v, s) -> x.kindOf(v, s)));
        Boundary.test(14, NO_SUCH_SIGN, () -> {
            Boundary.refusesNoVoice("kindOf", (x, voice) -> x.kindOf(voice, 0));
            Boundary.refusesNoSign("kindOf", (x, voice, sign) -> x.kindOf(voice, sign));
        });
    }

    private static void promise15() {
        Boundary.test(15, "Returns its place; -1 for a rest.", () -> eachSign("placeOf",
                new Object[] {0, -1, 3, -1, 6, -1, 9, -1, 9, 0, 1, 1, 0}, (x, v, s) -> x.placeOf(v, s)));
        Boundary.test(15, NO_SUCH_SIGN, () -> {
            Boundary.refusesNoVoice("placeOf", (x, voice) -> x.placeOf(voice, 0));
            Boundary.refusesNoSign("placeOf", (x, voice, sign) -> x.placeOf(voice, sign));
        });
    }

    private static void promise16() {
        Boundary.test(16, "Returns whether it is coloured; a rest is not.", () -> {
            boolean n = false;
            eachSign("isColoured", new Object[] {true, n, n, n, true, n, n, n, n, n, n, n, n},
                    (x, v, s) -> x.isColoured(v, s));
            Boundary.answers("isColoured of a rest where a coloured note was erased", false, () -> {
                ChoirNotes x = Boundary.notes(0);
                x.addNote(0, 1, 4, true);
                x.erase(0);
                x.addRest(0, 1);
                return x;
            }, x -> x.isColoured(0, 0));
            Boundary.answers("isColoured of a rest whose recolour was refused", false, () -> {
                ChoirNotes x = rests(1);
                Check.outcome(() -> x.recolour(0, 0));
                return x;
            }, x -> x.isColoured(0, 0));
        });
        Boundary.test(16, NO_SUCH_SIGN, () -> {
            Boundary.refusesNoVoice("isColoured", (x, voice) -> x.isColoured(voice, 0));
            Boundary.refusesNoSign("isColoured", (x, voice, sign) -> x.isColoured(voice, sign));
        });
    }

    private static void promise17() {
        Boundary.test(17, "Returns how many notes of its ligature stand ahead of it in it; -1 if it is in none.", () -> {
            eachSign("placeInLigature", new Object[] {-1, -1, -1, -1, -1, -1, -1, -1, 0, 1, 2, 0, 1},
                    (x, v, s) -> x.placeInLigature(v, s));
            Boundary.answers("placeInLigature of a note where a ligature was erased", -1, () -> {
                ChoirNotes x = ligatures(1, 3);
                x.erase(0);
                x.addNote(0, 0, 0, false);
                return x;
            }, x -> x.placeInLigature(0, 0));
            for (int sign : new int[] {0, 1, 2, 21, 22, 23}) {
                Boundary.answers("placeInLigature in the " + sign / 3 + ". of three", sign % 3, () -> ligatures(8, 3),
                        x -> x.placeInLigature(0, sign));
                Boundary.answers("placeInLigature in the " + sign / 2 + ". of two", sign % 2, () -> ligatures(12, 2),
                        x -> x.placeInLigature(0, sign));
            }
        });
        Boundary.test(17, NO_SUCH_SIGN, () -> {
            Boundary.refusesNoVoice("placeInLigature", (x, voice) -> x.placeInLigature(voice, 0));
            Boundary.refusesNoSign("placeInLigature", (x, voice, sign) -> x.placeInLigature(voice, sign));
        });
    }
}
