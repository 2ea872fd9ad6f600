/** The boundaries that the document names in its terms. */
final class TermsBoundaries {
    private static final int T = Boundary.TERMS;

    private TermsBoundaries() {
    }

    static void all() {
        calls();
        voices();
        signs();
        lengths();
        ligatures();
        ligatureKinds();
        pitches();
        clashes();
        refusedCalls();
        firstNamedException();
    }

    private static void calls() {
        Boundary.test(T, "An object is used for at most 512 calls after it has been made", () -> {
            Boundary.answers("the 512th call, an erase", 1, () -> afterCalls(511), x -> x.erase(0));
            Boundary.answers("the 511th call, a rest", 0, () -> afterCalls(510), x -> x.addRest(0, 3));
            Boundary.answers("the 512th call, a digest", Boundary.notes(1).digest(), () -> {
                ChoirNotes x = afterCalls(510);
                x.addNote(0, 3, 4, false);
                return x;
            }, x -> x.digest());
        });
    }

    /** A voice with the clef 2 that has one note after an odd number of calls, of at least two, and none after an even one. */
    private static ChoirNotes afterCalls(int calls) {
        ChoirNotes x = Boundary.notes(0);
        for (int n = 3; n <= calls; n++) {
            if (n % 2 == 1) {
                x.addNote(0, 3, 4, false);
            } else {
                x.erase(0);
            }
        }
        return x;
    }

    private static void voices() {
        Boundary.test(T, "At most 4, numbered from 0", () -> {
            for (int n = 0; n <= 3; n++) {
                int number = n;
                Boundary.answers("addVoice", n, () -> Boundary.ready(number), x -> x.addVoice(2, 2, 2));
                Boundary.answers("lengthOf in voice " + n, n + 2, () -> {
                    ChoirNotes x = new ChoirNotes();
                    for (int v = 0; v < 4; v++) {
                        x.addVoice(2, 2, 2);
                        for (int m = 0; m < v + 2; m++) {
                            x.addRest(v, 3);
                        }
                    }
                    return x;
                }, x -> x.length(number));
            }
            Boundary.refuses("addVoice, a fifth", Boundary.NOT_NOW, () -> Boundary.ready(4), x -> x.addVoice(2, 2, 2));
        });
        Boundary.test(T, "each has a mensuration of three numbers, 2 or 3 each", () -> {
            for (int wrong : new int[] {1, 4}) {
                Boundary.refuses("addVoice", Boundary.BAD, () -> Boundary.ready(1), x -> x.addVoice(wrong, 2, 2));
                Boundary.refuses("addVoice", Boundary.BAD, () -> Boundary.ready(1), x -> x.addVoice(2, wrong, 2));
                Boundary.refuses("addVoice", Boundary.BAD, () -> Boundary.ready(1), x -> x.addVoice(2, 2, wrong));
            }
            Boundary.answers("a longa's length in 2, 2, 2", 8, () -> longaIn(2, 2, 2), x -> x.length(0));
            Boundary.answers("a longa's length in 3, 2, 2", 12, () -> longaIn(3, 2, 2), x -> x.length(0));
            Boundary.answers("a longa's length in 2, 3, 2", 12, () -> longaIn(2, 3, 2), x -> x.length(0));
            Boundary.answers("a longa's length in 2, 2, 3", 12, () -> longaIn(2, 2, 3), x -> x.length(0));
            Boundary.answers("a longa's length in 3, 3, 3", 27, () -> longaIn(3, 3, 3), x -> x.length(0));
        });
        Boundary.test(T, "a clef, 0 to 5, or none (none, at first)", () -> {
            Boundary.answers("clefOf a new voice", -1, () -> Boundary.emptyVoices(1), x -> x.clefOf(0));
            Boundary.refuses("setClef(0, 6)", Boundary.BAD, () -> Boundary.ready(1), x -> x.setClef(0, 6));
            Boundary.refuses("setClef(0, -2)", Boundary.BAD, () -> Boundary.ready(1), x -> x.setClef(0, -2));
            for (int clef = -1; clef <= 5; clef++) {
                int c = clef;
                Boundary.answers("setClef(0, " + clef + ")", 2, () -> Boundary.ready(1), x -> x.setClef(0, c));
            }
        });
    }

    private static ChoirNotes longaIn(int breves, int semibreves, int minims) {
        ChoirNotes x = new ChoirNotes();
        x.addVoice(breves, semibreves, minims);
        x.addRest(0, 0);
        return x;
    }

    private static void signs() {
        Boundary.test(T, "a row of at most 24 signs, numbered from 0", () -> {
            Boundary.answers("addNote, the first", 0, () -> Boundary.notes(0), x -> x.addNote(0, 3, 4, false));
            Boundary.answers("addNote, the 24th", 23, () -> Boundary.notes(23), x -> x.addNote(0, 3, 4, false));
            Boundary.refuses("addNote, the 25th", Boundary.NOT_NOW, () -> Boundary.notes(24), x -> x.addNote(0, 3, 4, false));
            Boundary.refuses("addRest, the 25th", Boundary.NOT_NOW, () -> Boundary.notes(24), x -> x.addRest(0, 3));
            Boundary.answers("addLigature to the 24th", 21, () -> Boundary.notes(21), x -> x.addLigature(0, 4, 5, 6, true));
            Boundary.refuses("addLigature to the 25th", Boundary.NOT_NOW, () -> Boundary.notes(22),
                    x -> x.addLigature(0, 4, 5, 6, true));
            Boundary.answers("signs of four full voices", 96, () -> Boundary.longas(4, 24),
                    x -> x.signs(0) + x.signs(1) + x.signs(2) + x.signs(3));
        });
        Boundary.test(T, "0 longa, 1 breve, 2 semibreve, 3 minim", () -> {
            int[] lengths = {27, 9, 3, 1};
            for (int k = 0; k < 4; k++) {
                int kind = k;
                Boundary.answers("length of a rest of kind " + k, lengths[k], () -> Boundary.longas(1, 0), x -> {
                    x.addRest(0, kind);
                    return x.length(0);
                });
            }
        });
        Boundary.test(T, "A note has a place on the staff, 0 to 9", () -> {
            for (int place : new int[] {0, 1, 8, 9}) {
                Boundary.answers("placeOf", place, () -> Boundary.notes(0), x -> {
                    x.addNote(0, 1, place, false);
                    return x.placeOf(0, 0);
                });
            }
            for (int place : new int[] {-1, 10}) {
                Boundary.refuses("addNote on " + place, Boundary.BAD, () -> Boundary.notes(0),
                        x -> x.addNote(0, 1, place, false));
            }
        });
    }

    private static void lengths() {
        Boundary.test(T, "Of a coloured note the one number of the mensuration that tells how many of the next smaller kind "
                + "it has counts as 2; a coloured minim is 1 long.", () -> {
            int[] threes = {18, 6, 2, 1};
            int[] twos = {8, 4, 2, 1};
            for (int kind = 0; kind < 4; kind++) {
                coloured(kind, 3, threes[kind]);
                coloured(kind, 2, twos[kind]);
            }
        });
        Boundary.test(T, "a sign begins as the one ahead of it ends; the first one at 0", () -> {
            for (int kind = 0; kind < 4; kind++) {
                int first = kind;
                int length = new int[] {27, 9, 3, 1}[kind];
                Boundary.Recipe book = () -> {
                    ChoirNotes x = Boundary.longas(1, 0);
                    x.addRest(0, first);
                    x.addNote(0, 3, 4, false);
                    return x;
                };
                Boundary.answers("beginOf(0, 0)", 0, book, x -> x.beginOf(0, 0));
                Boundary.answers("beginOf(0, 1)", length, book, x -> x.beginOf(0, 1));
                Boundary.answers("signAt the first one's last minim", 0, book, x -> x.signAt(0, length - 1));
                Boundary.answers("signAt the next one's first minim", 1, book, x -> x.signAt(0, length));
            }
        });
    }

    private static void coloured(int kind, int number, int due) {
        Boundary.answers("lengthOf a coloured note of kind " + kind + " in " + number, due, () -> {
            ChoirNotes x = new ChoirNotes();
            x.addVoice(number, number, number);
            x.addNote(0, kind, 4, true);
            return x;
        }, x -> x.lengthOf(0, 0));
    }

    private static void ligatures() {
        Boundary.test(T, "A ligature is of two or three notes, none on the place of the one ahead of it", () -> {
            for (int place = 0; place <= 9; place++) {
                int p = place;
                int q = p == 9 ? 8 : p + 1;
                Boundary.refuses("addLigature of two on one place", Boundary.BAD, () -> Boundary.notes(1),
                        x -> x.addLigature(0, p, p, -1, false));
                Boundary.refuses("addLigature, the first two on one place", Boundary.BAD, () -> Boundary.notes(1),
                        x -> x.addLigature(0, p, p, q, false));
                Boundary.refuses("addLigature, the last two on one place", Boundary.BAD, () -> Boundary.notes(1),
                        x -> x.addLigature(0, q, p, p, true));
                Boundary.answers("addLigature that comes back to its first place", 1, () -> Boundary.notes(1),
                        x -> x.addLigature(0, p, q, p, true));
                Boundary.answers("addLigature of neighbours", 1, () -> Boundary.notes(1),
                        x -> x.addLigature(0, p, q, -1, true));
            }
        });
        Boundary.test(T, "its notes are signs one behind the other, not coloured at first", () -> {
            for (int n = 0; n < 3; n++) {
                int note = n;
                for (boolean stem : new boolean[] {false, true}) {
                    Boundary.Recipe book = () -> {
                        ChoirNotes x = Boundary.notes(0);
                        for (int i = 0; i < 4; i++) {
                            x.addNote(0, 0, 4, true);
                        }
                        for (int i = 0; i < 3; i++) {
                            x.erase(0);
                        }
                        x.addLigature(0, 4, 3, 5, stem);
                        return x;
                    };
                    Boundary.answers("isColoured of note " + n, false, book, x -> x.isColoured(0, 1 + note));
                    Boundary.answers("placeInLigature of note " + n, n, book, x -> x.placeInLigature(0, 1 + note));
                    Boundary.answers("recolour of note " + n, true, book, x -> x.recolour(0, 1 + note));
                }
            }
        });
    }

    private static void ligatureKinds() {
        Boundary.test(T, "with a stem the first two are semibreves; without one the first note is a longa if the second one "
                + "is lower, otherwise a breve, and the second one of three is a breve.", () -> {
            kinds(4, 3, -1, true, 2, 2);
            kinds(4, 5, -1, true, 2, 2);
            kinds(4, 3, 2, true, 2, 2, 0);
            kinds(4, 5, 6, true, 2, 2, 1);
            kinds(4, 3, 4, false, 0, 1, 1);
            kinds(4, 5, 4, false, 1, 1, 0);
            kinds(1, 0, 9, false, 0, 1, 1);
            kinds(0, 1, 9, false, 1, 1, 1);
            kinds(9, 8, 7, false, 0, 1, 0);
            kinds(8, 9, 8, false, 1, 1, 0);
        });
        Boundary.test(T, "The last note, if it is not one of the first two of a ligature with a stem, is a longa if it is "
                + "lower than the one ahead of it, otherwise a breve.", () -> {
            kinds(4, 3, -1, false, 0, 0);
            kinds(4, 5, -1, false, 1, 1);
            kinds(1, 0, -1, false, 0, 0);
            kinds(0, 1, -1, false, 1, 1);
            kinds(9, 0, -1, false, 0, 0);
            kinds(0, 9, -1, false, 1, 1);
            // Against the one ahead of it, not against the first one, and against 0 too.
            kinds(2, 5, 4, true, 2, 2, 0);
            kinds(2, 5, 6, true, 2, 2, 1);
            kinds(5, 2, 3, true, 2, 2, 1);
            kinds(5, 2, 1, true, 2, 2, 0);
            kinds(2, 5, 4, false, 1, 1, 0);
            kinds(5, 2, 3, false, 0, 1, 1);
            kinds(5, 1, 0, false, 0, 1, 0);
            kinds(5, 0, 1, false, 0, 1, 1);
        });
    }

    private static void kinds(int first, int second, int third, boolean stem, int... due) {
        String shape = first + ", " + second + ", " + third + ", " + stem;
        Boundary.Recipe book = () -> {
            ChoirNotes x = Boundary.emptyVoices(1);
            x.addLigature(0, first, second, third, stem);
            return x;
        };
        Boundary.answers("signs with " + shape, due.length, book, x -> x.signs(0));
        for (int i = 0; i < due.length; i++) {
            int sign = i;
            Boundary.answers("kindOf note " + i + " of " + shape, due[i], book, x -> x.kindOf(0, sign));
        }
    }

    private static void pitches() {
        Boundary.test(T, "The pitch of a note is its place, and twice the number of the clef.", () -> {
            pitch(0, 0, 0);
            pitch(1, 0, 2);
            pitch(5, 0, 10);
            pitch(0, 9, 9);
            pitch(4, 9, 17);
            pitch(5, 9, 19);
        });
        Boundary.test(T, "A clef fits a voice, if all its notes have pitches from 3 to 16 with it.", () -> {
            int[] pitches = {2, 3, 4, 15, 16, 17};
            for (int pitch : pitches) {
                for (int clef = 0; clef <= 5; clef++) {
                    int c = clef;
                    int place = pitch - 2 * clef;
                    if (place >= 0 && place <= 9) {
                        Boundary.answers("fits(0, " + c + ") with the pitch " + pitch, pitch > 2 && pitch < 17,
                                () -> note(-1, place), x -> x.fits(0, c));
                    }
                }
            }
            Boundary.answers("fits(0, 0), one note of two too low", false, () -> {
                ChoirNotes x = note(-1, 2);
                x.addNote(0, 1, 3, false);
                return x;
            }, x -> x.fits(0, 0));
            Boundary.answers("fits(0, 5), the other one of two too high", false, () -> {
                ChoirNotes x = note(-1, 6);
                x.addNote(0, 1, 7, false);
                return x;
            }, x -> x.fits(0, 5));
        });
    }

    private static ChoirNotes note(int clef, int place) {
        ChoirNotes x = Boundary.emptyVoices(1);
        x.setClef(0, clef);
        x.addNote(0, 1, place, false);
        return x;
    }

    private static void pitch(int clef, int place, int due) {
        Boundary.answers("pitchOf place " + place + " with the clef " + clef, due, () -> note(clef, place),
                x -> x.pitchOf(0, 0));
    }

    private static void clashes() {
        Boundary.test(T, "Two pitches clash, if their distance, the rest by 7, is 1, 3 or 6.", () -> {
            // Every distance that two pitches can have, 0 to 19, from below and from above.
            int[] due = {0, 1, 0, 1, 0, 0, 1, 0, 1, 0, 1, 0, 0, 1, 0, 1, 0, 1, 0, 0};
            for (int distance = 0; distance < due.length; distance++) {
                int high = distance;
                Boundary.Recipe book = () -> {
                    ChoirNotes x = Boundary.emptyVoices(2);
                    x.setClef(0, 0);
                    x.addNote(0, 3, 0, false);
                    int clef = Math.min(5, high / 2);
                    x.setClef(1, clef);
                    x.addNote(1, 3, high - 2 * clef, false);
                    return x;
                };
                Boundary.answers("clashes(0, 1) of the distance " + distance, due[distance], book, x -> x.clashes(0, 1));
                Boundary.answers("clashes(1, 0) of the distance " + distance, due[distance], book, x -> x.clashes(1, 0));
                int first = due[distance] - 1;
                Boundary.answers("firstClash(0, 1) of the distance " + distance, first, book, x -> x.firstClash(0, 1));
                Boundary.answers("firstClash(1, 0) of the distance " + distance, first, book, x -> x.firstClash(1, 0));
            }
        });
    }

    /** A full book but for room in voice 1; voice 2 has no clef, voice 3 nothing. */
    private static ChoirNotes busy() {
        ChoirNotes x = Boundary.notes(24);
        for (int v = 1; v <= 3; v++) {
            x.addVoice(2, 3, 2);
        }
        x.setClef(1, 4);
        x.addLigature(1, 5, 3, 4, false);
        x.addRest(1, 1);
        x.addNote(2, 0, 7, true);
        return x;
    }

    private static void refusedCalls() {
        Boundary.test(T, "A method that throws an exception changes nothing.", () -> {
            refused(Boundary.NOT_NOW, "addVoice(2, 2, 2)", x -> x.addVoice(2, 2, 2));
            refused(Boundary.NOT_NOW, "addNote(0, ..)", x -> x.addNote(0, 1, 1, true));
            refused(Boundary.NOT_NOW, "addRest(0, 1)", x -> x.addRest(0, 1));
            refused(Boundary.NOT_NOW, "addLigature(0, ..)", x -> x.addLigature(0, 1, 2, 3, true));
            refused(Boundary.BAD, "addLigature(1, ..)", x -> x.addLigature(1, 1, 2, 2, true));
            refused(Boundary.NOT_NOW, "erase(3)", x -> x.erase(3));
            refused(Boundary.NOT_NOW, "recolour(1, 3)", x -> x.recolour(1, 3));
            refused(Boundary.NO_SUCH, "recolour(1, 4)", x -> x.recolour(1, 4));
            refused(Boundary.BAD, "setClef(1, 6)", x -> x.setClef(1, 6));
            refused(Boundary.BAD, "setMensuration(1, 3, 2, 4)", x -> x.setMensuration(1, 3, 2, 4));
            refused(Boundary.BAD, "signAt(1, -1)", x -> x.signAt(1, -1));
            refused(Boundary.NOT_NOW, "pitchOf(2, 0)", x -> x.pitchOf(2, 0));
            refused(Boundary.NOT_NOW, "clashes(1, 2)", x -> x.clashes(1, 2));
            refused(Boundary.NOT_NOW, "firstClash(2, 1)", x -> x.firstClash(2, 1));
            refused(Boundary.BAD, "clashesWith(1, 6)", x -> x.clashesWith(1, 6));
            refused(Boundary.BAD, "canonClashes(1, 49, 0)", x -> x.canonClashes(1, 49, 0));
            refused(Boundary.BAD, "bestDelay(1, 8)", x -> x.bestDelay(1, 8));
        });
    }

    private static void refused(Class<? extends RuntimeException> want, String call, Boundary.Ask ask) {
        Boundary.refuses(call, want, TermsBoundaries::busy, ask);
        Boundary.refuses(call + ", twice", want, () -> {
            ChoirNotes x = busy();
            Check.outcome(() -> ask.of(x));
            return x;
        }, ask);
    }

    /** Each pair of exceptions that can apply at once, of every call that has two. */
    private static void firstNamedException() {
        Boundary.test(T, "If several exceptions apply, the one that is named first is thrown.", () -> {
            first(Boundary.BAD, "addVoice of a wrong fifth", x -> x.addVoice(2, 2, 4));
            for (int none : new int[] {-1, 4}) {
                first(Boundary.NO_SUCH, "addNote, no voice and no kind", x -> x.addNote(none, 4, 0, false));
                first(Boundary.NO_SUCH, "addNote, no voice and no place", x -> x.addNote(none, 0, 10, false));
                first(Boundary.NO_SUCH, "addRest, no voice and no kind", x -> x.addRest(none, 4));
                first(Boundary.NO_SUCH, "addLigature, no voice and no place", x -> x.addLigature(none, 10, 0, 1, true));
                first(Boundary.NO_SUCH, "addLigature, no voice and one place", x -> x.addLigature(none, 0, 0, 1, true));
                first(Boundary.NO_SUCH, "recolour, no voice and no sign", x -> x.recolour(none, 99));
                first(Boundary.NO_SUCH, "setClef, no voice and no clef", x -> x.setClef(none, 6));
                first(Boundary.NO_SUCH, "setMensuration, no voice and a wrong number", x -> x.setMensuration(none, 2, 2, 1));
                first(Boundary.NO_SUCH, "signAt, no voice and no time", x -> x.signAt(none, -1));
                first(Boundary.NO_SUCH, "fits, no voice and no clef", x -> x.fits(none, 6));
                first(Boundary.NO_SUCH, "clashes, no voice and a clef missing", x -> x.clashes(2, none));
                first(Boundary.NO_SUCH, "clashes, no voice and a clef missing", x -> x.clashes(none, 2));
                first(Boundary.NO_SUCH, "firstClash, no voice and a clef missing", x -> x.firstClash(2, none));
                first(Boundary.NO_SUCH, "firstClash, no voice and a clef missing", x -> x.firstClash(none, 2));
                first(Boundary.NO_SUCH, "clashesWith, no voice and no clef", x -> x.clashesWith(none, -1));
                first(Boundary.NO_SUCH, "canonClashes, no voice and no delay", x -> x.canonClashes(none, 0, 0));
                first(Boundary.NO_SUCH, "canonClashes, no voice and too high", x -> x.canonClashes(none, 1, 8));
                first(Boundary.NO_SUCH, "bestDelay, no voice and too high", x -> x.bestDelay(none, -8));
            }
            first(Boundary.BAD, "addNote, no kind and no room", x -> x.addNote(0, 4, 0, false));
            first(Boundary.BAD, "addNote, no place and no room", x -> x.addNote(0, 0, 10, false));
            first(Boundary.BAD, "addRest, no kind and no room", x -> x.addRest(0, -1));
            first(Boundary.BAD, "addLigature, no place and no room", x -> x.addLigature(0, 0, 10, -1, false));
            first(Boundary.BAD, "addLigature, no third place and no room", x -> x.addLigature(0, 0, 1, -2, false));
            first(Boundary.BAD, "addLigature, one place and no room", x -> x.addLigature(0, 1, 1, -1, false));
            first(Boundary.NO_SUCH, "pitchOf, no sign and no clef", x -> x.pitchOf(2, 1));
            first(Boundary.NO_SUCH, "pitchOf, no sign and no clef", x -> x.pitchOf(3, 0));
        });
    }

    /** In a book that would refuse the right call too, or lacks what a later exception is about. */
    private static void first(Class<? extends RuntimeException> want, String call, Boundary.Ask ask) {
        Boundary.refuses(call, want, TermsBoundaries::busy, ask);
    }
}
