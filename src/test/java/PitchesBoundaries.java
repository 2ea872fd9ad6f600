/** The boundaries of promises 23 to 28. */
final class PitchesBoundaries {
    private static final String NO_SUCH_VOICE = "Throws `IndexOutOfBoundsException` if there is no such voice";
    private static final String NO_SUCH_SIGN = NO_SUCH_VOICE + ", or it has no such sign";
    private static final String NO_CLEF_OF_BOTH = "Throws `IllegalStateException` if a clef of both is missing";

    private PitchesBoundaries() {
    }

    static void all() {
        promise23();
        promise24();
        promise25();
        promise26();
        promise27();
        promise28();
    }

    /** One voice with this clef and a note on this place, and a rest. */
    private static ChoirNotes noteAndRest(int clef, int place) {
        ChoirNotes x = Boundary.emptyVoices(1);
        x.setClef(0, clef);
        x.addNote(0, 1, place, false);
        x.addRest(0, 1);
        return x;
    }

    private static void promise23() {
        Boundary.test(23, "Returns its clef; -1 if it is missing.", () -> {
            Boundary.answers("clefOf a new voice", -1, () -> Boundary.emptyVoices(1), x -> x.clefOf(0));
            for (int clef = -1; clef <= 5; clef++) {
                int due = clef;
                Boundary.answers("clefOf", due, () -> noteAndRest(due, 4), x -> x.clefOf(0));
            }
            Boundary.answers("clefOf a voice whose clef was taken away", -1, () -> {
                ChoirNotes x = noteAndRest(5, 4);
                x.setClef(0, -1);
                return x;
            }, x -> x.clefOf(0));
            Boundary.answers("clefOf after a wrong setClef", 5, () -> {
                ChoirNotes x = noteAndRest(5, 4);
                Check.outcome(() -> x.setClef(0, 6));
                Check.outcome(() -> x.setClef(0, -2));
                return x;
            }, x -> x.clefOf(0));
        });
        Boundary.test(23, NO_SUCH_VOICE, () -> Boundary.refusesNoVoice("clefOf", (x, voice) -> x.clefOf(voice)));
    }

    private static void promise24() {
        Boundary.test(24, "Returns its pitch; -1 for a rest.", () -> {
            for (int clef : new int[] {0, 1, 4, 5}) {
                for (int place : new int[] {0, 1, 8, 9}) {
                    Boundary.answers("pitchOf place " + place + " with the clef " + clef, place + 2 * clef,
                            () -> noteAndRest(clef, place), x -> x.pitchOf(0, 0));
                    Boundary.answers("pitchOf a rest with the clef " + clef, -1,
                            () -> noteAndRest(clef, place), x -> x.pitchOf(0, 1));
                }
            }
        });
        Boundary.test(24, NO_SUCH_SIGN, () -> {
            Boundary.refusesNoVoice("pitchOf", (x, voice) -> x.pitchOf(voice, 0));
            Boundary.refusesNoSign("pitchOf", (x, voice, sign) -> x.pitchOf(voice, sign));
        });
        Boundary.test(24, "Throws `IllegalStateException` if the clef is missing", () -> {
            Boundary.refuses("pitchOf a note", Boundary.NOT_NOW, () -> noteAndRest(-1, 0), x -> x.pitchOf(0, 0));
            Boundary.refuses("pitchOf a rest", Boundary.NOT_NOW, () -> noteAndRest(-1, 0), x -> x.pitchOf(0, 1));
            Boundary.answers("pitchOf a note with the clef 0", 0, () -> noteAndRest(0, 0), x -> x.pitchOf(0, 0));
            Boundary.refuses("pitchOf where another voice has a clef", Boundary.NOT_NOW, () -> {
                ChoirNotes x = Boundary.ready(2);
                x.setClef(0, -1);
                return x;
            }, x -> x.pitchOf(0, 0));
            Boundary.answers("pitchOf where another voice has none", 9, () -> {
                ChoirNotes x = Boundary.ready(2);
                x.setClef(0, -1);
                return x;
            }, x -> x.pitchOf(1, 0));
        });
    }

    private static void promise25() {
        Boundary.test(25, "Returns whether it would fit.", () -> {
            // The pitches 2, 3, 4 and 15, 16, 17 with each clef that comes to them.
            fits(0, 2, false);
            fits(0, 3, true);
            fits(0, 4, true);
            fits(1, 0, false);
            fits(1, 1, true);
            fits(1, 2, true);
            fits(2, 0, true);
            fits(3, 9, true);
            fits(4, 7, true);
            fits(4, 8, true);
            fits(4, 9, false);
            fits(5, 5, true);
            fits(5, 6, true);
            fits(5, 7, false);
            for (int clef = 0; clef <= 5; clef++) {
                int c = clef;
                Boundary.answers("fits(0, " + c + ") without signs", true, () -> Boundary.emptyVoices(1), x -> x.fits(0, c));
                Boundary.answers("fits(0, " + c + ") with rests", true, () -> {
                    ChoirNotes x = Boundary.emptyVoices(1);
                    x.addRest(0, 0);
                    return x;
                }, x -> x.fits(0, c));
                Boundary.changesNothing("fits(0, " + c + ")", () -> noteAndRest(2, 5), x -> x.fits(0, c));
            }
            for (int last : new int[] {0, 23}) {
                Boundary.answers("fits(0, 0) with sign " + last + " too low", false, () -> {
                    ChoirNotes x = Boundary.notes(last);
                    x.addNote(0, 3, 2, false);
                    while (x.signs(0) < 24) {
                        x.addNote(0, 3, 4, false);
                    }
                    return x;
                }, x -> x.fits(0, 0));
            }
            Boundary.answers("fits(0, 0) with a note too low that was erased", true, () -> {
                ChoirNotes x = Boundary.notes(1);
                x.addNote(0, 3, 2, false);
                x.erase(0);
                return x;
            }, x -> x.fits(0, 0));
        });
        Boundary.test(25, NO_SUCH_VOICE, () -> Boundary.refusesNoVoice("fits", (x, voice) -> x.fits(voice, 0)));
        Boundary.test(25, "Throws `IllegalArgumentException` if clef is not 0 to 5", () -> {
            for (int clef : new int[] {-1, 6, -2, 7, Boundary.LEAST, Boundary.MOST}) {
                for (int own : new int[] {-1, 0, 5}) {
                    Boundary.refuses("fits(0, " + clef + ")", Boundary.BAD, () -> noteAndRest(own, 4), x -> x.fits(0, clef));
                }
            }
            for (int clef : new int[] {0, 1, 4, 5}) {
                Boundary.answers("fits(0, " + clef + ")", true, () -> noteAndRest(-1, 5), x -> x.fits(0, clef));
            }
        });
    }

    /** Whatever clef the voice has itself. */
    private static void fits(int clef, int place, boolean due) {
        for (int own : new int[] {-1, 0, 3, 5}) {
            Boundary.answers("fits(0, " + clef + ") with a note on " + place, due, () -> noteAndRest(own, place),
                    x -> x.fits(0, clef));
        }
    }

    private static void promise26() {
        Boundary.test(26, "Returns how many clefs would fit.", () -> {
            int[] due = {4, 5, 5, 6, 6, 6, 6, 5, 5, 4};
            for (int p = 0; p <= 9; p++) {
                int place = p;
                Boundary.answers("clefsThatFit place " + p, due[p], () -> noteAndRest(-1, place), x -> x.clefsThatFit(0));
                Boundary.changesNothing("clefsThatFit", () -> noteAndRest(3, place), x -> x.clefsThatFit(0));
            }
            Boundary.answers("clefsThatFit nothing", 6, () -> Boundary.emptyVoices(1), x -> x.clefsThatFit(0));
            Boundary.answers("clefsThatFit the places 0 and 9", 2, () -> ligature(0, 9), x -> x.clefsThatFit(0));
            Boundary.answers("clefsThatFit the places 0 and 8", 3, () -> ligature(0, 8), x -> x.clefsThatFit(0));
            Boundary.answers("clefsThatFit the places 1 and 9", 3, () -> ligature(1, 9), x -> x.clefsThatFit(0));
            Boundary.answers("clefsThatFit the places 3 and 6", 6, () -> ligature(3, 6), x -> x.clefsThatFit(0));
        });
        Boundary.test(26, NO_SUCH_VOICE, () ->
                Boundary.refusesNoVoice("clefsThatFit", (x, voice) -> x.clefsThatFit(voice)));
    }

    private static ChoirNotes ligature(int first, int second) {
        ChoirNotes x = Boundary.emptyVoices(1);
        x.addLigature(0, first, second, -1, false);
        return x;
    }

    /** Two voices of a breve each, 4 minims long, with these clefs and places. */
    private static ChoirNotes two(int clef, int place, int otherClef, int otherPlace) {
        ChoirNotes x = Boundary.emptyVoices(2);
        x.setClef(0, clef);
        x.addNote(0, 1, place, false);
        x.setClef(1, otherClef);
        x.addNote(1, 1, otherPlace, false);
        return x;
    }

    /** A longa, and signs of 27 minims of which the last minim alone clashes with it, then one that clashes with nothing. */
    private static ChoirNotes lastMinim() {
        ChoirNotes x = Boundary.longas(2, 0);
        x.addNote(0, 0, 4, false);
        x.addNote(1, 1, 4, false);
        x.addNote(1, 1, 6, true);
        x.addRest(1, 1);
        x.addNote(1, 3, 4, false);
        x.addNote(1, 3, 6, false);
        x.addNote(1, 3, 5, false);
        x.addNote(1, 0, 5, false);
        return x;
    }

    /** Two voices of 24 longas, of which the note of this number is one higher in the second voice. */
    private static ChoirNotes oneHigher(int sign) {
        ChoirNotes x = Boundary.longas(2, sign);
        x.addNote(0, 0, 4, false);
        x.addNote(1, 0, 5, false);
        for (int n = sign + 1; n < 24; n++) {
            x.addNote(0, 0, 4, false);
            x.addNote(1, 0, 4, false);
        }
        return x;
    }

    /** As the signs end together, the next of one voice never sounds with the old one of the other. */
    private static ChoirNotes endTogether() {
        ChoirNotes x = Boundary.longas(2, 0);
        for (int v = 0; v < 2; v++) {
            for (int place = 4; place <= 7; place++) {
                x.addNote(v, place % 4, place, false);
            }
        }
        return x;
    }

    private static ChoirNotes allHigher() {
        ChoirNotes x = Boundary.longas(1, 24);
        x.addVoice(3, 3, 3);
        x.setClef(1, 2);
        for (int n = 0; n < 24; n++) {
            x.addNote(1, 0, 5, false);
        }
        return x;
    }

    private static void promise27() {
        Boundary.test(27, "Returns in how many minims notes of both last whose pitches clash.", () -> {
            clashes(0, () -> Boundary.longas(2, 0));
            clashes(0, () -> Boundary.longas(2, 24));
            clashes(648, PitchesBoundaries::allHigher);
            clashes(1, PitchesBoundaries::lastMinim);
            for (int sign : new int[] {0, 1, 22, 23}) {
                clashes(27, () -> oneHigher(sign));
            }
            clashes(0, PitchesBoundaries::endTogether);
            clashes(4, () -> two(0, 4, 0, 5));
            clashes(4, () -> two(0, 4, 1, 3));
            clashes(0, () -> two(0, 4, 1, 2));
            clashes(0, () -> {
                ChoirNotes x = two(0, 4, 0, 5);
                x.erase(1);
                return x;
            });
            clashes(0, () -> {
                ChoirNotes x = two(0, 4, 0, 4);
                x.erase(1);
                x.addRest(1, 0);
                return x;
            });
            Boundary.answers("clashes of a voice with itself", 0, () -> Boundary.longas(1, 24), x -> x.clashes(0, 0));
            Boundary.changesNothing("clashes(0, 1)", PitchesBoundaries::lastMinim, x -> x.clashes(0, 1));
        });
        Boundary.test(27, NO_SUCH_VOICE, () -> {
            Boundary.refusesNoVoice("clashes(.., 0)", (x, voice) -> x.clashes(voice, 0));
            Boundary.refusesNoVoice("clashes(0, ..)", (x, voice) -> x.clashes(0, voice));
        });
        Boundary.test(27, NO_CLEF_OF_BOTH, () -> {
            noClefOfBoth("clashes", (x, one) -> x.clashes(one, 1 - one));
            Boundary.refuses("clashes of a voice without a clef with itself", Boundary.NOT_NOW,
                    () -> noteAndRest(-1, 4), x -> x.clashes(0, 0));
            Boundary.answers("clashes of a voice with the clef 0 with itself", 0, () -> noteAndRest(0, 4), x -> x.clashes(0, 0));
        });
    }

    private static void clashes(int due, Boundary.Recipe book) {
        Boundary.answers("clashes(0, 1)", due, book, x -> x.clashes(0, 1));
        Boundary.answers("clashes(1, 0)", due, book, x -> x.clashes(1, 0));
    }

    private static void noClefOfBoth(String call, Boundary.VoiceAsk ask) {
        for (int one : new int[] {0, 1}) {
            for (int clef : new int[] {0, 5}) {
                Boundary.refuses(call + " with the first clef missing", Boundary.NOT_NOW, () -> two(-1, 4, clef, 4),
                        x -> ask.of(x, one));
                Boundary.refuses(call + " with the second clef missing", Boundary.NOT_NOW, () -> two(clef, 4, -1, 4),
                        x -> ask.of(x, one));
                Boundary.taken(call + " with both clefs", () -> two(clef, 4, clef, 4), x -> ask.of(x, one));
                Boundary.taken(call + " with both clefs", () -> two(clef, 4, 5 - clef, 4), x -> ask.of(x, one));
            }
            Boundary.refuses(call + " with both clefs missing", Boundary.NOT_NOW, () -> two(-1, 4, -1, 4),
                    x -> ask.of(x, one));
            Boundary.refuses(call + " of empty voices without clefs", Boundary.NOT_NOW, () -> Boundary.emptyVoices(2),
                    x -> ask.of(x, one));
            Boundary.refuses(call + " with both clefs missing, and a third voice's there", Boundary.NOT_NOW, () -> {
                ChoirNotes x = two(-1, 4, -1, 4);
                x.addVoice(2, 2, 2);
                x.setClef(2, 3);
                return x;
            }, x -> ask.of(x, one));
        }
    }

    private static void promise28() {
        Boundary.test(28, "Returns the time of the first such minim; -1 without any.", () -> {
            firstClash(-1, () -> Boundary.longas(2, 0));
            firstClash(-1, () -> Boundary.longas(2, 24));
            firstClash(0, PitchesBoundaries::allHigher);
            firstClash(26, PitchesBoundaries::lastMinim);
            for (int sign : new int[] {0, 1, 22, 23}) {
                firstClash(27 * sign, () -> oneHigher(sign));
            }
            firstClash(-1, PitchesBoundaries::endTogether);
            firstClash(0, () -> two(0, 4, 0, 5));
            firstClash(0, () -> two(0, 4, 1, 3));
            firstClash(-1, () -> two(0, 4, 1, 2));
            firstClash(-1, () -> two(0, 4, 0, 4));
            firstClash(-1, () -> {
                ChoirNotes x = two(0, 4, 0, 5);
                x.erase(1);
                return x;
            });
            Boundary.answers("firstClash of a voice with itself", -1, () -> Boundary.longas(1, 24), x -> x.firstClash(0, 0));
            Boundary.changesNothing("firstClash(0, 1)", PitchesBoundaries::lastMinim, x -> x.firstClash(0, 1));
        });
        Boundary.test(28, NO_SUCH_VOICE, () -> {
            Boundary.refusesNoVoice("firstClash(.., 0)", (x, voice) -> x.firstClash(voice, 0));
            Boundary.refusesNoVoice("firstClash(0, ..)", (x, voice) -> x.firstClash(0, voice));
        });
        Boundary.test(28, NO_CLEF_OF_BOTH, () -> {
            noClefOfBoth("firstClash", (x, one) -> x.firstClash(one, 1 - one));
            Boundary.refuses("firstClash of a voice without a clef with itself", Boundary.NOT_NOW,
                    () -> noteAndRest(-1, 4), x -> x.firstClash(0, 0));
            Boundary.answers("firstClash of a voice with the clef 0 with itself", -1, () -> noteAndRest(0, 4),
                    x -> x.firstClash(0, 0));
        });
    }

    private static void firstClash(int due, Boundary.Recipe book) {
        Boundary.answers("firstClash(0, 1)", due, book, x -> x.firstClash(0, 1));
        Boundary.answers("firstClash(1, 0)", due, book, x -> x.firstClash(1, 0));
    }
}
