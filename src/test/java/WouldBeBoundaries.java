import java.math.BigInteger;
import java.util.ArrayList;
import java.util.List;

/** The boundaries of promises 29 to 34. */
final class WouldBeBoundaries {
    private static final String NO_SUCH_VOICE = "Throws `IndexOutOfBoundsException` if there is no such voice";
    /** Worked out apart from the class, from the numbers that the document asks for. */
    private static final long DIGEST_OF_EMPTY_VOICE = 3379577514749145620L;
    private static final long DIGEST_OF_REST = -3906939616379097201L;

    private WouldBeBoundaries() {
    }

    static void all() {
        promise29();
        promise30();
        promise31();
        promise32();
        promise33();
        promise34();
    }

    /** A voice of a breve, 4 minims long, without a clef, and as many others with the clef 2, on place 4: pitch 8. */
    private static ChoirNotes among(int others) {
        ChoirNotes x = Boundary.emptyVoices(1 + others);
        x.addNote(0, 1, 4, false);
        for (int v = 1; v <= others; v++) {
            x.setClef(v, 2);
            x.addNote(v, 1, 4, false);
        }
        return x;
    }

    private static void promise29() {
        Boundary.test(29, "Returns clashes() with each other voice that has a clef, added, if it had this clef "
                + "(nothing is changed).", () -> {
            // The pitches 4 to 14 against 8: the distances 4, 2, 0, 2, 4, 6, of which 6 clashes.
            int[] each = {0, 0, 0, 0, 0, 4};
            for (int c = 0; c <= 5; c++) {
                int clef = c;
                for (int n = 0; n <= 3; n++) {
                    int others = n;
                    Boundary.answers("clashesWith(0, " + c + ") of " + n, n * each[c], () -> among(others),
                            x -> x.clashesWith(0, clef));
                    Boundary.changesNothing("clashesWith(0, " + c + ")", () -> among(others), x -> x.clashesWith(0, clef));
                    Boundary.answers("clashesWith(0, " + c + ") of " + n + " without clefs", 0, () -> {
                        ChoirNotes x = among(others);
                        for (int v = 1; v <= others; v++) {
                            x.setClef(v, -1);
                        }
                        return x;
                    }, x -> x.clashesWith(0, clef));
                    Boundary.answers("clashesWith(0, " + c + ") of " + n + " with a clef of its own", n * each[c], () -> {
                        ChoirNotes x = among(others);
                        x.setClef(0, 5);
                        return x;
                    }, x -> x.clashesWith(0, clef));
                }
            }
            Boundary.answers("clashesWith of three, the second one's clef 0", 4 + 0 + 4, () -> {
                ChoirNotes x = among(3);
                x.setClef(2, 0); // 4 and 14 are 10 apart: the rest is 3
                x.erase(2);
                x.addNote(2, 1, 5, false); // 5 and 14 are 9 apart: the rest is 2
                return x;
            }, x -> x.clashesWith(0, 5));
            Boundary.answers("clashesWith of three, the second one's clef missing", 8, () -> {
                ChoirNotes x = among(3);
                x.setClef(2, -1);
                return x;
            }, x -> x.clashesWith(0, 5));
            Boundary.answers("clashesWith of four voices of 24 longas", 3 * 648, WouldBeBoundaries::fullBook,
                    x -> x.clashesWith(3, 2));
        });
        Boundary.test(29, NO_SUCH_VOICE, () ->
                Boundary.refusesNoVoice("clashesWith", (x, voice) -> x.clashesWith(voice, 0)));
        Boundary.test(29, "Throws `IllegalArgumentException` if clef is not 0 to 5", () -> {
            for (int clef : new int[] {-1, 6, -2, 7, Boundary.LEAST, Boundary.MOST}) {
                Boundary.refuses("clashesWith(0, " + clef + ")", Boundary.BAD, () -> among(3), x -> x.clashesWith(0, clef));
                Boundary.refuses("clashesWith(0, " + clef + ")", Boundary.BAD, () -> among(0), x -> x.clashesWith(0, clef));
            }
            for (int clef : new int[] {0, 1, 4, 5}) {
                Boundary.taken("clashesWith(0, " + clef + ")", () -> among(3), x -> x.clashesWith(0, clef));
            }
        });
    }

    /** Four full voices: the last one clashes with every other one all the time, if both have the same clef. */
    private static ChoirNotes fullBook() {
        ChoirNotes x = Boundary.longas(3, 24);
        x.addVoice(3, 3, 3);
        for (int n = 0; n < 24; n++) {
            x.addNote(3, 0, 5, false);
        }
        return x;
    }

    private static void promise30() {
        Boundary.test(30, "Returns of the clefs that fit the one with the fewest clashesWith(), of several the smallest "
                + "number; -1 if none fits (nothing is changed).", () -> {
            // Of clefs that all fit and clash alike, the smallest one that fits.
            int[] smallest = {2, 1, 1, 0, 0, 0, 0, 0, 0, 0};
            for (int p = 0; p <= 9; p++) {
                int place = p;
                Boundary.answers("bestClef of place " + p, smallest[p], () -> onePlace(place), x -> x.bestClef(0));
                Boundary.changesNothing("bestClef", () -> onePlace(place), x -> x.bestClef(0));
            }
            Boundary.answers("bestClef of nothing", 0, () -> Boundary.emptyVoices(1), x -> x.bestClef(0));
            Boundary.answers("bestClef of nothing with a clef of its own", 0, () -> Boundary.notes(0), x -> x.bestClef(0));
            // The clefs 2 and 3 fit all places: so -1 comes of no voice, also of one with the farthest places.
            Boundary.answers("bestClef of the places 0 and 9", 2, () -> Boundary.emptyVoices(1), x -> {
                x.addLigature(0, 0, 9, -1, false);
                return x.bestClef(0);
            });
            Boundary.answers("bestClef of every place", 2, () -> Boundary.emptyVoices(1), x -> {
                for (int place = 0; place <= 9; place++) {
                    x.addNote(0, 0, place, false);
                }
                return x.bestClef(0);
            });
            // A clef that clashes less is better than a smaller one, by one minim already, and a larger one is not.
            Boundary.answers("bestClef, 0 with more clashes", 1, () -> against(4, 1), x -> x.bestClef(0));
            Boundary.answers("bestClef, each with as many clashes", 2, () -> evenly(1, 1), x -> x.bestClef(0));
            Boundary.answers("bestClef, 2 with one more", 3, () -> evenly(2, 1), x -> x.bestClef(0));
            Boundary.answers("bestClef, 3 with one more", 2, () -> evenly(1, 2), x -> x.bestClef(0));
            Boundary.answers("bestClef, without the others' clef", 2, () -> {
                ChoirNotes x = evenly(2, 1);
                x.setClef(1, -1);
                return x;
            }, x -> x.bestClef(0));
            // Each clef, 0 to 5, by turns the one with the fewest: none, where each other one has at least one.
            int[][] others = {{0, 4}, {1, 2}, {3, 4}, {5, 6}, {0, 1}, {2, 3}};
            for (int clef = 0; clef <= 5; clef++) {
                int[] pitches = others[clef];
                Boundary.answers("bestClef against " + pitches[0] + " and " + pitches[1], clef, () -> {
                    ChoirNotes x = against(4, pitches[0]);
                    x.addVoice(2, 2, 2);
                    x.setClef(2, 0);
                    x.addNote(2, 1, pitches[1], false);
                    return x;
                }, x -> x.bestClef(0));
            }
            // Of clefs that do not fit none is taken, though it has the fewest clashes.
            Boundary.answers("bestClef, 0 and 1 with no clash and 2 and 3 with some", 2, () -> {
                ChoirNotes x = evenly(0, 0);
                x.addNote(1, 1, 7, false); // 7 and 5 from 0 and 2, 3 and 1 from 4 and 6
                return x;
            }, x -> x.bestClef(0));
        });
        Boundary.test(30, NO_SUCH_VOICE, () -> Boundary.refusesNoVoice("bestClef", (x, voice) -> x.bestClef(voice)));
    }

    private static ChoirNotes onePlace(int place) {
        ChoirNotes x = Boundary.emptyVoices(2);
        x.addNote(0, 1, place, false);
        return x;
    }

    /** A breve on the first place without a clef against one of this pitch, with the clef 0. */
    private static ChoirNotes against(int place, int pitch) {
        ChoirNotes x = onePlace(place);
        x.setClef(1, 0);
        x.addNote(1, 1, pitch, false);
        return x;
    }

    /**
     * The places 0 and 9 leave the clefs 2 and 3, so 4 and 6 as the pitches of the first note, a longa of 8 minims.
     * The other voice clashes with 4 alone for so many minims and with 6 alone for so many.
     */
    private static ChoirNotes evenly(int withTwo, int withThree) {
        ChoirNotes x = Boundary.emptyVoices(2);
        x.addNote(0, 0, 0, false);
        x.addNote(0, 3, 9, false);
        x.setClef(1, 0);
        for (int n = 0; n < withTwo; n++) {
            x.addNote(1, 3, 1, false); // 3 from 4, 5 from 6
        }
        for (int n = 0; n < withThree; n++) {
            x.addNote(1, 3, 0, false); // 4 from 4, 6 from 6
        }
        return x;
    }

    /** One voice of 2, 2, 2 of this length, all on place 4. */
    private static ChoirNotes lasting(int minims) {
        ChoirNotes x = Boundary.emptyVoices(1);
        for (int left = minims; left > 0; left -= left >= 8 ? 8 : 1) {
            x.addNote(0, left >= 8 ? 0 : 3, 4, false);
        }
        return x;
    }

    private static void promise31() {
        Boundary.test(31, "- `up`: how much higher; lower, if less than 0", () -> {
            // The distances that clash, up to the farthest that two places of a canon can be.
            boolean[] clash = {false, true, false, true, false, false, true, false, true, false, true, false, false, true,
                false, true, false};
            for (int u = -7; u <= 7; u++) {
                int up = u;
                Boundary.answers("canonClashes(0, 4, " + u + ")", clash[9 - u] ? 4 : 0, () -> {
                    ChoirNotes x = Boundary.emptyVoices(1);
                    x.addNote(0, 1, 0, false);
                    x.addNote(0, 1, 9, false);
                    return x;
                }, x -> x.canonClashes(0, 4, up));
                Boundary.answers("canonClashes(0, 4, " + u + ") downwards", clash[9 + u] ? 4 : 0, () -> {
                    ChoirNotes x = Boundary.emptyVoices(1);
                    x.addNote(0, 1, 9, false);
                    x.addNote(0, 1, 0, false);
                    return x;
                }, x -> x.canonClashes(0, 4, up));
            }
        });
        Boundary.test(31, "A voice follows itself in canon: another one sings its signs, so much later, and each note "
                + "so much higher.", () -> {
            for (int clef = -1; clef <= 5; clef++) {
                int own = clef;
                Boundary.answers("canonClashes with the clef " + clef, 3, () -> {
                    ChoirNotes x = lasting(4);
                    x.setClef(0, own);
                    return x;
                }, x -> x.canonClashes(0, 1, 1));
            }
            Boundary.answers("canonClashes where a rest sounds with each note", 0, () -> {
                ChoirNotes x = Boundary.emptyVoices(1);
                for (int n = 0; n < 12; n++) {
                    x.addNote(0, 3, 4, false);
                    x.addRest(0, 3);
                }
                return x;
            }, x -> x.canonClashes(0, 1, 1));
            Boundary.answers("canonClashes beside other voices", 3, () -> {
                ChoirNotes x = lasting(4);
                x.addVoice(2, 2, 2);
                x.addNote(1, 0, 5, false);
                return x;
            }, x -> x.canonClashes(0, 1, 1));
        });
        Boundary.test(31, "Returns in how many minims both clash (nothing is changed).", () -> {
            for (int length : new int[] {0, 1, 2, 3, 46, 47, 48, 49, 50, 64}) {
                for (int delay : new int[] {1, 2, 47, 48}) {
                    String call = "canonClashes(0, " + delay + ", 1) of a voice of " + length;
                    int due = Math.max(0, length - delay);
                    Boundary.answers(call, due, () -> lasting(length), x -> x.canonClashes(0, delay, 1));
                    Boundary.answers(call + ", at the same height", 0, () -> lasting(length),
                            x -> x.canonClashes(0, delay, 0));
                    Boundary.changesNothing(call, () -> lasting(length), x -> x.canonClashes(0, delay, 1));
                }
            }
            Boundary.answers("canonClashes(0, 1, 1) of 24 longas", 647, () -> Boundary.longas(1, 24),
                    x -> x.canonClashes(0, 1, 1));
            Boundary.answers("canonClashes(0, 48, 1) of 24 longas", 600, () -> Boundary.longas(1, 24),
                    x -> x.canonClashes(0, 48, 1));
        });
        Boundary.test(31, NO_SUCH_VOICE, () ->
                Boundary.refusesNoVoice("canonClashes", (x, voice) -> x.canonClashes(voice, 1, 0)));
        Boundary.test(31, "Throws `IllegalArgumentException` if delay is not 1 to 48, or up is not -7 to 7", () -> {
            for (int delay : new int[] {0, 49, -1, 50, Boundary.LEAST, Boundary.MOST}) {
                for (int up : new int[] {-7, 0, 7, 8}) {
                    Boundary.refuses("canonClashes(0, " + delay + ", " + up + ")", Boundary.BAD, () -> lasting(9),
                            x -> x.canonClashes(0, delay, up));
                }
            }
            for (int up : new int[] {-8, 8, -9, 9, Boundary.LEAST, Boundary.MOST}) {
                for (int delay : new int[] {1, 48, 0}) {
                    Boundary.refuses("canonClashes(0, " + delay + ", " + up + ")", Boundary.BAD, () -> lasting(9),
                            x -> x.canonClashes(0, delay, up));
                }
            }
            for (int delay : new int[] {1, 2, 47, 48}) {
                for (int up : new int[] {-7, -6, 6, 7}) {
                    Boundary.taken("canonClashes(0, " + delay + ", " + up + ")", () -> lasting(9),
                            x -> x.canonClashes(0, delay, up));
                }
            }
        });
    }

    private static void promise32() {
        Boundary.test(32, "Returns the delay, 1 to 48, with the fewest canonClashes(), of several the smallest "
                + "(nothing is changed).", () -> {
            // All on one place and one higher: it clashes as long as both sing, so the best delay is its length.
            int[] lengths = {0, 1, 2, 3, 46, 47, 48, 49, 50, 64};
            int[] due = {1, 1, 2, 3, 46, 47, 48, 48, 48, 48};
            for (int i = 0; i < lengths.length; i++) {
                int length = lengths[i];
                Boundary.answers("bestDelay(0, 1) of a voice of " + length, due[i], () -> lasting(length),
                        x -> x.bestDelay(0, 1));
                Boundary.answers("bestDelay(0, 0) of a voice of " + length, 1, () -> lasting(length),
                        x -> x.bestDelay(0, 0));
                Boundary.changesNothing("bestDelay(0, 1)", () -> lasting(length), x -> x.bestDelay(0, 1));
            }
            Boundary.answers("bestDelay(0, 1) of 24 longas", 48, () -> Boundary.longas(1, 24), x -> x.bestDelay(0, 1));
            // Each odd delay sets the notes against the rests; the smallest one is due.
            Boundary.answers("bestDelay(0, 1) of notes and rests by turns", 1, () -> {
                ChoirNotes x = Boundary.emptyVoices(1);
                for (int n = 0; n < 12; n++) {
                    x.addNote(0, 3, 4, false);
                    x.addRest(0, 3);
                }
                return x;
            }, x -> x.bestDelay(0, 1));
            Boundary.answers("bestDelay(0, 1) of a note, a rest, a note", 2, () -> {
                ChoirNotes x = Boundary.emptyVoices(1);
                x.addNote(0, 2, 4, false); // 0 to 2
                x.addRest(0, 2);
                x.addNote(0, 2, 4, false); // 4 to 6
                return x;
            }, x -> x.bestDelay(0, 1));
        });
        Boundary.test(32, NO_SUCH_VOICE, () -> Boundary.refusesNoVoice("bestDelay", (x, voice) -> x.bestDelay(voice, 0)));
        Boundary.test(32, "Throws `IllegalArgumentException` if up is not -7 to 7", () -> {
            for (int up : new int[] {-8, 8, -9, 9, Boundary.LEAST, Boundary.MOST}) {
                Boundary.refuses("bestDelay(0, " + up + ")", Boundary.BAD, () -> lasting(9), x -> x.bestDelay(0, up));
                Boundary.refuses("bestDelay(0, " + up + ")", Boundary.BAD, () -> lasting(0), x -> x.bestDelay(0, up));
            }
            int[] ups = {-7, -6, -5, 5, 6, 7};
            int[] due = {1, 9, 1, 1, 9, 1};
            for (int i = 0; i < ups.length; i++) {
                int up = ups[i];
                Boundary.answers("bestDelay(0, " + up + ")", due[i], () -> lasting(9), x -> x.bestDelay(0, up));
            }
        });
    }

    private static void promise33() {
        Boundary.test(33, "Returns the mean length of voices; 0 without any.", () -> {
            Boundary.answers("meanLength() without voices", 0.0, () -> Boundary.emptyVoices(0), x -> x.meanLength());
            for (int n = 1; n <= 4; n++) {
                int voices = n;
                Boundary.answers("meanLength() of empty voices", 0.0, () -> Boundary.emptyVoices(voices), x -> x.meanLength());
                Boundary.answers("meanLength() of breves", 6.0, () -> Boundary.ready(voices), x -> x.meanLength());
            }
            double[] due = {1.0, 0.5, 1.0 / 3.0, 0.25};
            for (int n = 0; n <= 3; n++) {
                int others = n;
                Boundary.answers("meanLength() of one minim in " + (n + 1) + " voices", due[n], () -> {
                    ChoirNotes x = Boundary.emptyVoices(1 + others);
                    x.addRest(others, 3);
                    return x;
                }, x -> x.meanLength());
            }
            Boundary.answers("meanLength() of two minims in three voices", 2.0 / 3.0, () -> {
                ChoirNotes x = Boundary.emptyVoices(3);
                x.addRest(0, 3);
                x.addRest(2, 3);
                return x;
            }, x -> x.meanLength());
            Boundary.answers("meanLength() of four full voices", 648.0, WouldBeBoundaries::fullBook, x -> x.meanLength());
        });
    }

    private static void promise34() {
        Boundary.test(34, "Computes a checksum. A number d starts with 2311; for each of the following numbers x, d becomes "
                + "d * 31 + x, which wraps around as a 64-bit integer: voices(), longest(); then for each voice signs(), "
                + "notes(), ligatures(), length(), clefOf(), clefsThatFit(), bestClef(), canonClashes() with the delay 4 and "
                + "0 higher, bestDelay() of 4 higher; and for each of its signs kindOf(), placeOf(), placeInLigature(), "
                + "lengthOf(), beginOf().", () -> {
            // 2311 * 31 * 31, which does not wrap around; with a voice it does by its last number, as 11 numbers are taken.
            Boundary.answers("digest() without voices", 2220871L, () -> Boundary.emptyVoices(0), x -> x.digest());
            wraps("an empty voice", () -> Boundary.emptyVoices(1), true);
            wraps("four empty voices", () -> Boundary.emptyVoices(4), true);
            wraps("a voice with signs", () -> Boundary.notes(2), true);
            wraps("a full voice", () -> Boundary.longas(1, 24), true);
            wraps("four voices", () -> Boundary.ready(4), true);
            wraps("no voice", () -> Boundary.emptyVoices(0), false);
        });
        Boundary.test(34, "canonClashes() with the delay 4 and 0 higher, bestDelay() of 4 higher", () -> {
            Boundary.Recipe book = () -> {
                ChoirNotes x = Boundary.emptyVoices(1);
                x.addNote(0, 1, 4, false);
                x.addNote(0, 1, 5, false);
                return x;
            };
            // Next to both numbers the answers are others, so that the digest tells which of them it takes.
            int[] clashes = {3, 4, 3};
            int[] delays = {4, 8, 1};
            for (int i = 0; i < 3; i++) {
                int number = 3 + i;
                Boundary.answers("canonClashes(0, " + number + ", 0)", clashes[i], book, x -> x.canonClashes(0, number, 0));
                Boundary.answers("bestDelay(0, " + number + ")", delays[i], book, x -> x.bestDelay(0, number));
            }
            Boundary.answers("canonClashes(0, 4, 1)", 0, book, x -> x.canonClashes(0, 4, 1));
            Boundary.answers("canonClashes(0, 4, -1)", 0, book, x -> x.canonClashes(0, 4, -1));
            wraps("a voice that clashes with itself in canon", book, true);
        });
        Boundary.test(34, "Returns d.", () -> {
            Boundary.answers("digest() of an empty voice", DIGEST_OF_EMPTY_VOICE, () -> Boundary.emptyVoices(1), x -> x.digest());
            Boundary.answers("digest() of a rest", DIGEST_OF_REST, () -> {
                ChoirNotes x = Boundary.emptyVoices(1);
                x.addRest(0, 3);
                return x;
            }, x -> x.digest());
            Boundary.changesNothing("digest()", () -> Boundary.ready(4), x -> x.digest());
            Boundary.changesNothing("digest()", () -> Boundary.longas(1, 24), x -> x.digest());
        });
    }

    /** The digest from the numbers that the other calls answer, without a wrap-around, and then by its last 64 bits. */
    private static void wraps(String voices, Boundary.Recipe book, boolean around) {
        BigInteger d = BigInteger.valueOf(2311);
        for (int number : numbers(book)) {
            d = d.multiply(BigInteger.valueOf(31)).add(BigInteger.valueOf(number));
        }
        Check.count(d.bitLength() > 63 == around, "the digest of " + voices + " wraps around otherwise: " + d);
        Boundary.answers("digest() of " + voices, d.longValue(), book, x -> x.digest());
    }

    private static List<Integer> numbers(Boundary.Recipe book) {
        ChoirNotes x = book.make();
        int voices = x.voices();
        List<Integer> numbers = new ArrayList<>(List.of(voices, x.longest()));
        for (int v = 0; v < voices; v++) {
            int signs = x.signs(v);
            numbers.addAll(List.of(signs, x.notes(v), x.ligatures(v), x.length(v), x.clefOf(v), x.clefsThatFit(v),
                    x.bestClef(v), x.canonClashes(v, 4, 0), x.bestDelay(v, 4)));
            for (int s = 0; s < signs; s++) {
                numbers.addAll(List.of(x.kindOf(v, s), x.placeOf(v, s), x.placeInLigature(v, s), x.lengthOf(v, s),
                        x.beginOf(v, s)));
            }
        }
        return numbers;
    }
}
