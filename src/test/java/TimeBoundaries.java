/** The boundaries of promises 18 to 22. */
final class TimeBoundaries {
    private static final String NO_SUCH_VOICE = "Throws `IndexOutOfBoundsException` if there is no such voice";
    private static final String NO_SUCH_SIGN = NO_SUCH_VOICE + ", or it has no such sign";

    private TimeBoundaries() {
    }

    static void all() {
        promise18();
        promise19();
        promise20();
        promise21();
        promise22();
    }

    /** Of each kind, 0 to 3, a note, a coloured note and a rest. */
    private static ChoirNotes kinds(int breves, int semibreves, int minims) {
        ChoirNotes x = new ChoirNotes();
        x.addVoice(breves, semibreves, minims);
        for (int kind = 0; kind < 4; kind++) {
            x.addNote(0, kind, 4, false);
            x.addNote(0, kind, 4, true);
            x.addRest(0, kind);
        }
        return x;
    }

    private static void promise18() {
        Boundary.test(18, "Returns how long it is.", () -> {
            lengths(2, 2, 2, 8, 8, 8, 4, 4, 4, 2, 2, 2, 1, 1, 1);
            lengths(2, 2, 3, 12, 12, 12, 6, 6, 6, 3, 2, 3, 1, 1, 1);
            lengths(2, 3, 2, 12, 12, 12, 6, 4, 6, 2, 2, 2, 1, 1, 1);
            lengths(2, 3, 3, 18, 18, 18, 9, 6, 9, 3, 2, 3, 1, 1, 1);
            lengths(3, 2, 2, 12, 8, 12, 4, 4, 4, 2, 2, 2, 1, 1, 1);
            lengths(3, 2, 3, 18, 12, 18, 6, 6, 6, 3, 2, 3, 1, 1, 1);
            lengths(3, 3, 2, 18, 12, 18, 6, 4, 6, 2, 2, 2, 1, 1, 1);
            lengths(3, 3, 3, 27, 18, 27, 9, 6, 9, 3, 2, 3, 1, 1, 1);
        });
        Boundary.test(18, NO_SUCH_SIGN, () -> {
            Boundary.refusesNoVoice("lengthOf", (x, voice) -> x.lengthOf(voice, 0));
            Boundary.refusesNoSign("lengthOf", (x, voice, sign) -> x.lengthOf(voice, sign));
        });
    }

    private static void lengths(int breves, int semibreves, int minims, int... due) {
        for (int s = 0; s < due.length; s++) {
            int sign = s;
            String call = "lengthOf(0, " + s + ") in " + breves + ", " + semibreves + ", " + minims;
            Boundary.answers(call, due[s], () -> kinds(breves, semibreves, minims), x -> x.lengthOf(0, sign));
            Boundary.answers(call + ", set later", due[s], () -> {
                ChoirNotes x = kinds(5 - breves, 5 - semibreves, 5 - minims);
                x.setMensuration(0, breves, semibreves, minims);
                return x;
            }, x -> x.lengthOf(0, sign));
        }
    }

    private static void promise19() {
        Boundary.test(19, "Returns when it begins.", () -> {
            int[] due = {0, 27, 45, 72, 81, 87, 96, 99, 101, 104, 105, 106};
            for (int s = 0; s < due.length; s++) {
                int sign = s;
                Boundary.answers("beginOf(0, " + s + ")", due[s], () -> kinds(3, 3, 3), x -> x.beginOf(0, sign));
            }
            for (int sign : new int[] {0, 1, 22, 23}) {
                Boundary.answers("beginOf a minim", sign, () -> Boundary.notes(24), x -> x.beginOf(0, sign));
                Boundary.answers("beginOf a longa", 27 * sign, () -> Boundary.longas(1, 24), x -> x.beginOf(0, sign));
            }
            Boundary.answers("beginOf the last sign after the first one's recolour", 612, () -> {
                ChoirNotes x = Boundary.longas(1, 24);
                x.recolour(0, 0);
                return x;
            }, x -> x.beginOf(0, 23));
        });
        Boundary.test(19, NO_SUCH_SIGN, () -> {
            Boundary.refusesNoVoice("beginOf", (x, voice) -> x.beginOf(voice, 0));
            Boundary.refusesNoSign("beginOf", (x, voice, sign) -> x.beginOf(voice, sign));
        });
    }

    private static void promise20() {
        Boundary.test(20, "Returns how long it is.", () -> {
            for (int n : new int[] {0, 1, 2, 23, 24}) {
                Boundary.answers("length of " + n + " minims", n, () -> Boundary.notes(n), x -> x.length(0));
                Boundary.answers("length of " + n + " longas", 27 * n, () -> Boundary.longas(1, n), x -> x.length(0));
            }
            Boundary.answers("length of rests and notes", 107, () -> kinds(3, 3, 3), x -> x.length(0));
            Boundary.answers("length after an erase", 621, () -> {
                ChoirNotes x = Boundary.longas(1, 24);
                x.erase(0);
                return x;
            }, x -> x.length(0));
        });
        Boundary.test(20, NO_SUCH_VOICE, () -> Boundary.refusesNoVoice("length", (x, voice) -> x.length(voice)));
    }

    private static void promise21() {
        Boundary.test(21, "Returns how long the longest voice is; 0 without voices.", () -> {
            Boundary.answers("longest() without voices", 0, () -> Boundary.emptyVoices(0), x -> x.longest());
            Boundary.answers("longest() of an empty voice", 0, () -> Boundary.emptyVoices(1), x -> x.longest());
            Boundary.answers("longest() of empty voices", 0, () -> Boundary.emptyVoices(4), x -> x.longest());
            Boundary.answers("longest() of a minim", 1, () -> Boundary.notes(1), x -> x.longest());
            Boundary.answers("longest() of 24 longas", 648, () -> Boundary.longas(1, 24), x -> x.longest());
            for (int voice = 0; voice < 4; voice++) {
                int longer = voice;
                Boundary.answers("longest(), voice " + voice, 13, () -> oneLonger(longer), x -> x.longest());
            }
        });
    }

    private static ChoirNotes oneLonger(int voice) {
        ChoirNotes x = Boundary.ready(4); // 6 minims each
        for (int v = 0; v < 4; v++) {
            x.addRest(v, 1);
        }
        x.addRest(voice, 3);
        return x;
    }

    private static void promise22() {
        Boundary.test(22, "Returns the sign that lasts in the minim from this time on; -1 if the voice is over by then.", () -> {
            at("an empty voice", () -> Boundary.notes(0), 0, -1, 1, -1, Boundary.MOST, -1);
            at("a minim", () -> Boundary.notes(1), 0, 0, 1, -1, 2, -1, Boundary.MOST, -1);
            at("24 minims", () -> Boundary.notes(24), 0, 0, 1, 1, 22, 22, 23, 23, 24, -1, 25, -1);
            at("24 longas", () -> Boundary.longas(1, 24), 0, 0, 26, 0, 27, 1, 53, 1, 54, 2, 620, 22, 621, 23, 647, 23, 648, -1,
                    649, -1, Boundary.MOST - 1, -1, Boundary.MOST, -1);
            at("notes and rests", () -> kinds(2, 2, 2), 7, 0, 8, 1, 15, 1, 16, 2, 23, 2, 24, 3, 41, 8, 42, 9, 43, 10, 44, 11,
                    45, -1);
            at("a voice with an erased sign", () -> {
                ChoirNotes x = Boundary.notes(2);
                x.erase(0);
                return x;
            }, 0, 0, 1, -1);
        });
        Boundary.test(22, NO_SUCH_VOICE, () -> Boundary.refusesNoVoice("signAt", (x, voice) -> x.signAt(voice, 0)));
        Boundary.test(22, "Throws `IllegalArgumentException` if time is less than 0", () -> {
            for (int n : new int[] {0, 1, 24}) {
                for (int time : new int[] {-1, -2, Boundary.LEAST}) {
                    Boundary.refuses("signAt(0, " + time + ")", Boundary.BAD, () -> Boundary.notes(n), x -> x.signAt(0, time));
                }
                for (int time : new int[] {0, 1}) {
                    Boundary.answers("signAt(0, " + time + ")", time < n ? time : -1, () -> Boundary.notes(n),
                            x -> x.signAt(0, time));
                }
            }
        });
    }

    /** Pairs of a time and the sign that is due. */
    private static void at(String voice, Boundary.Recipe book, int... pairs) {
        for (int i = 0; i < pairs.length; i += 2) {
            int time = pairs[i];
            Boundary.answers("signAt(0, " + time + ") in " + voice, pairs[i + 1], book, x -> x.signAt(0, time));
        }
    }
}
