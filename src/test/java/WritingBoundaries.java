/** The boundaries of promises 1 to 9. */
final class WritingBoundaries {
    private static final int[] WRONG_NUMBERS = {1, 4, 0, -2, -3, Boundary.LEAST, Boundary.MOST};

    private WritingBoundaries() {
    }

    static void all() {
        promise1();
        promise2();
        promise3();
        promise4();
        promise5();
        promise5Refusals();
        promise6();
        promise7();
        promise8();
        promise9();
    }

    private static void promise1() {
        Boundary.test(1, "Creates a choirbook without voices.", () -> {
            Boundary.answers("voices()", 0, ChoirNotes::new, x -> x.voices());
            Boundary.answers("longest()", 0, ChoirNotes::new, x -> x.longest());
            Boundary.answers("meanLength()", 0.0, ChoirNotes::new, x -> x.meanLength());
            Boundary.refuses("signs(0)", Boundary.NO_SUCH, ChoirNotes::new, x -> x.signs(0));
            Boundary.answers("addVoice, the first one", 0, ChoirNotes::new, x -> x.addVoice(2, 2, 2));
            Boundary.answers("voices() beside a book with voices", 0, () -> {
                ChoirNotes x = new ChoirNotes();
                Boundary.ready(4);
                return x;
            }, x -> x.voices());
        });
    }

    private static void promise2() {
        Boundary.test(2, "Returns the number of the voice.", () -> {
            for (int n = 0; n < 4; n++) {
                int voices = n;
                Boundary.answers("addVoice to " + n, n, () -> Boundary.emptyVoices(voices), x -> x.addVoice(3, 2, 3));
                Boundary.answers("voices() with one more than " + n, n + 1, () -> Boundary.emptyVoices(voices + 1),
                        x -> x.voices());
            }
        });
        Boundary.test(2, "Throws `IllegalArgumentException` if one of them is not 2 or 3", () -> {
            for (int right : new int[] {2, 3}) {
                for (int wrong : WRONG_NUMBERS) {
                    badVoice(wrong, right, right);
                    badVoice(right, wrong, right);
                    badVoice(right, right, wrong);
                    badVoice(wrong, wrong, wrong);
                }
            }
            for (int m = 0; m < 8; m++) {
                int b = 2 + m / 4;
                int s = 2 + m / 2 % 2;
                int n = 2 + m % 2;
                Boundary.answers("addVoice(" + b + ", " + s + ", " + n + ")", 0, ChoirNotes::new, x -> x.addVoice(b, s, n));
            }
        });
        Boundary.test(2, "Throws `IllegalStateException` if there are 4", () -> {
            Boundary.answers("addVoice to 3", 3, () -> Boundary.ready(3), x -> x.addVoice(2, 2, 2));
            Boundary.refuses("addVoice to 4", Boundary.NOT_NOW, () -> Boundary.ready(4), x -> x.addVoice(2, 2, 2));
            Boundary.refuses("addVoice to 4", Boundary.NOT_NOW, () -> Boundary.emptyVoices(4), x -> x.addVoice(3, 3, 3));
            Boundary.answers("voices() after a fifth one", 4, () -> {
                ChoirNotes x = Boundary.emptyVoices(4);
                Check.outcome(() -> x.addVoice(2, 2, 2));
                return x;
            }, x -> x.voices());
        });
    }

    private static void badVoice(int breves, int semibreves, int minims) {
        String call = "addVoice(" + breves + ", " + semibreves + ", " + minims + ")";
        for (int voices : new int[] {0, 1, 3}) {
            Boundary.refuses(call, Boundary.BAD, () -> Boundary.ready(voices), x -> x.addVoice(breves, semibreves, minims));
        }
    }

    private static void promise3() {
        Boundary.test(3, "Writes a note behind the other signs.", () -> {
            for (int count : new int[] {0, 1, 22, 23}) {
                Boundary.Recipe book = () -> {
                    ChoirNotes x = Boundary.notes(count);
                    x.addNote(0, 1, 9, true);
                    return x;
                };
                Boundary.answers("signs(0)", count + 1, book, x -> x.signs(0));
                Boundary.answers("kindOf the new one", 1, book, x -> x.kindOf(0, count));
                Boundary.answers("placeOf the new one", 9, book, x -> x.placeOf(0, count));
                Boundary.answers("isColoured of the new one", true, book, x -> x.isColoured(0, count));
                Boundary.answers("beginOf the new one", count, book, x -> x.beginOf(0, count));
                Boundary.answers("placeInLigature of the new one", -1, book, x -> x.placeInLigature(0, count));
            }
        });
        Boundary.test(3, "Returns its number.", () -> {
            for (int count = 0; count < 24; count++) {
                int signs = count;
                Boundary.answers("addNote behind " + count, count, () -> Boundary.notes(signs),
                        x -> x.addNote(0, 2, 5, false));
            }
        });
        Boundary.test(3, "Throws `IndexOutOfBoundsException` if there is no such voice", () ->
                Boundary.refusesNoVoice("addNote", (x, voice) -> x.addNote(voice, 0, 0, true)));
        Boundary.test(3, "Throws `IllegalArgumentException` if kind is not 0 to 3, or place is not 0 to 9", () -> {
            for (int kind : new int[] {-1, 4, 5, Boundary.LEAST, Boundary.MOST}) {
                badNote(kind, 0);
                badNote(kind, 9);
                badNote(kind, 10);
            }
            for (int place : new int[] {-1, 10, 11, Boundary.LEAST, Boundary.MOST}) {
                badNote(0, place);
                badNote(3, place);
            }
            for (int kind : new int[] {0, 1, 2, 3}) {
                for (int place : new int[] {0, 1, 8, 9}) {
                    Boundary.answers("addNote(0, " + kind + ", " + place + ", ..)", 1, () -> Boundary.notes(1),
                            x -> x.addNote(0, kind, place, true));
                }
            }
        });
        Boundary.test(3, "Throws `IllegalStateException` if there are 24 signs", () -> {
            Boundary.answers("addNote behind 22", 22, () -> Boundary.notes(22), x -> x.addNote(0, 0, 0, false));
            Boundary.answers("addNote behind 23", 23, () -> Boundary.notes(23), x -> x.addNote(0, 0, 0, false));
            Boundary.refuses("addNote behind 24", Boundary.NOT_NOW, () -> Boundary.notes(24), x -> x.addNote(0, 0, 0, false));
            Boundary.refuses("addNote behind 24", Boundary.NOT_NOW, WritingBoundaries::fullLigatures,
                    x -> x.addNote(0, 3, 9, true));
            Boundary.answers("addNote to another voice than the full one", 0, () -> {
                ChoirNotes x = Boundary.notes(24);
                x.addVoice(2, 2, 2);
                return x;
            }, x -> x.addNote(1, 0, 0, false));
            Boundary.answers("addNote after an erase", 23, () -> {
                ChoirNotes x = Boundary.notes(24);
                x.erase(0);
                return x;
            }, x -> x.addNote(0, 0, 0, false));
        });
    }

    private static void badNote(int kind, int place) {
        for (int count : new int[] {0, 1, 23}) {
            for (boolean coloured : new boolean[] {false, true}) {
                Boundary.refuses("addNote(0, " + kind + ", " + place + ", " + coloured + ")", Boundary.BAD,
                        () -> Boundary.notes(count), x -> x.addNote(0, kind, place, coloured));
            }
        }
    }

    private static ChoirNotes fullLigatures() {
        ChoirNotes x = Boundary.notes(0);
        for (int n = 0; n < 8; n++) {
            x.addLigature(0, n, n + 1, n, n % 2 == 0);
        }
        return x;
    }

    private static void promise4() {
        Boundary.test(4, "Writes a rest behind the other signs.", () -> {
            for (int count : new int[] {0, 1, 22, 23}) {
                Boundary.Recipe book = () -> {
                    ChoirNotes x = Boundary.notes(count);
                    x.addRest(0, 2);
                    return x;
                };
                Boundary.answers("signs(0)", count + 1, book, x -> x.signs(0));
                Boundary.answers("notes(0)", count, book, x -> x.notes(0));
                Boundary.answers("kindOf the new one", 2, book, x -> x.kindOf(0, count));
                Boundary.answers("placeOf the new one", -1, book, x -> x.placeOf(0, count));
                Boundary.answers("beginOf the new one", count, book, x -> x.beginOf(0, count));
                Boundary.answers("placeInLigature of the new one", -1, book, x -> x.placeInLigature(0, count));
            }
        });
        Boundary.test(4, "Returns its number.", () -> {
            for (int count = 0; count < 24; count++) {
                int signs = count;
                Boundary.answers("addRest behind " + count, count, () -> Boundary.notes(signs), x -> x.addRest(0, 3));
            }
        });
        Boundary.test(4, "Throws `IndexOutOfBoundsException` if there is no such voice", () ->
                Boundary.refusesNoVoice("addRest", (x, voice) -> x.addRest(voice, 3)));
        Boundary.test(4, "Throws `IllegalArgumentException` if kind is not 0 to 3", () -> {
            for (int kind : new int[] {-1, 4, 5, -2, Boundary.LEAST, Boundary.MOST}) {
                for (int count : new int[] {0, 1, 23}) {
                    Boundary.refuses("addRest(0, " + kind + ")", Boundary.BAD, () -> Boundary.notes(count),
                            x -> x.addRest(0, kind));
                }
            }
            for (int kind : new int[] {0, 1, 2, 3}) {
                Boundary.answers("addRest(0, " + kind + ")", 1, () -> Boundary.notes(1), x -> x.addRest(0, kind));
            }
        });
        Boundary.test(4, "Throws `IllegalStateException` if there are 24 signs", () -> {
            Boundary.answers("addRest behind 22", 22, () -> Boundary.notes(22), x -> x.addRest(0, 0));
            Boundary.answers("addRest behind 23", 23, () -> Boundary.notes(23), x -> x.addRest(0, 0));
            Boundary.refuses("addRest behind 24", Boundary.NOT_NOW, () -> Boundary.notes(24), x -> x.addRest(0, 0));
            Boundary.refuses("addRest behind 24", Boundary.NOT_NOW, WritingBoundaries::fullLigatures, x -> x.addRest(0, 3));
        });
    }

    private static void promise5() {
        Boundary.test(5, "Writes a ligature behind the other signs.", () -> {
            for (int count : new int[] {0, 1, 20, 21}) {
                Boundary.Recipe book = () -> {
                    ChoirNotes x = Boundary.notes(count);
                    x.addLigature(0, 9, 0, 1, false);
                    return x;
                };
                int[] kinds = {0, 1, 1};
                int[] places = {9, 0, 1};
                int[] begins = {count, count + 8, count + 12};
                Boundary.answers("signs(0)", count + 3, book, x -> x.signs(0));
                Boundary.answers("ligatures(0)", 1, book, x -> x.ligatures(0));
                for (int i = 0; i < 3; i++) {
                    int ahead = i;
                    int sign = count + i;
                    Boundary.answers("kindOf note " + i, kinds[i], book, x -> x.kindOf(0, sign));
                    Boundary.answers("placeOf note " + i, places[i], book, x -> x.placeOf(0, sign));
                    Boundary.answers("placeInLigature of note " + i, ahead, book, x -> x.placeInLigature(0, sign));
                    Boundary.answers("beginOf note " + i, begins[i], book, x -> x.beginOf(0, sign));
                }
            }
        });
        Boundary.test(5, "- `third`: that of the third one; -1 if it has two", () -> {
            Boundary.answers("signs(0) with a third of -1", 2, () -> ligature(4, 5, -1), x -> x.signs(0));
            Boundary.answers("signs(0) with a third of 0", 3, () -> ligature(4, 5, 0), x -> x.signs(0));
            Boundary.answers("signs(0) with a third of 1", 3, () -> ligature(4, 5, 1), x -> x.signs(0));
            Boundary.answers("placeOf a third of 0", 0, () -> ligature(4, 5, 0), x -> x.placeOf(0, 2));
            Boundary.refuses("a third of -2", Boundary.BAD, () -> Boundary.notes(0), x -> x.addLigature(0, 4, 5, -2, true));
        });
        Boundary.test(5, "Returns the number of its first note.", () -> {
            for (int count = 0; count <= 22; count++) {
                int signs = count;
                Boundary.answers("addLigature of two behind " + count, count, () -> Boundary.notes(signs),
                        x -> x.addLigature(0, 2, 4, -1, false));
                if (count < 22) {
                    Boundary.answers("addLigature of three behind " + count, count, () -> Boundary.notes(signs),
                            x -> x.addLigature(0, 2, 4, 3, true));
                }
            }
        });
    }

    private static ChoirNotes ligature(int first, int second, int third) {
        ChoirNotes x = Boundary.notes(0);
        x.addLigature(0, first, second, third, false);
        return x;
    }

    private static void promise5Refusals() {
        Boundary.test(5, "Throws `IndexOutOfBoundsException` if there is no such voice", () ->
                Boundary.refusesNoVoice("addLigature", (x, voice) -> x.addLigature(voice, 1, 0, 9, true)));
        Boundary.test(5, "Throws `IllegalArgumentException` if a place is not 0 to 9 (the third one -1 to 9), "
                + "or one is that of the note ahead", () -> {
            for (int wrong : new int[] {-1, 10, -2, 11, Boundary.LEAST, Boundary.MOST}) {
                badLigature(wrong, 4, -1);
                badLigature(wrong, 4, 5);
                badLigature(4, wrong, -1);
                badLigature(4, wrong, 5);
                if (wrong != -1) {
                    badLigature(4, 5, wrong);
                }
            }
            for (int place = 0; place <= 9; place++) {
                badLigature(place, place, -1);
                badLigature(place, place, 9 - place);
                badLigature(9 - place, place, place);
                badLigature(place, place, place);
            }
            for (int edge : new int[] {0, 1, 8, 9}) {
                goodLigature(edge, 4, -1);
                goodLigature(4, edge, -1);
                goodLigature(4, 5, edge);
                goodLigature(edge, 4, edge);
            }
            for (int place = 0; place < 9; place++) {
                goodLigature(place, place + 1, -1);
                goodLigature(place + 1, place, -1);
                goodLigature(place, place + 1, place);
                goodLigature(place + 1, place, place + 1);
            }
            // The note ahead is one of the ligature: its first note may stand where the sign ahead of it stands.
            Boundary.answers("addLigature on the last note's place", 1, () -> Boundary.notes(1),
                    x -> x.addLigature(0, 4, 5, -1, false));
            Boundary.answers("addLigature on the last ligature's place", 3, () -> ligature(3, 4, 5),
                    x -> x.addLigature(0, 5, 4, -1, false));
        });
        Boundary.test(5, "Throws `IllegalStateException` if there would be more than 24 signs", () -> {
            for (int count = 20; count <= 24; count++) {
                room(count, -1, 2);
                room(count, 0, 3);
                room(count, 9, 3);
            }
        });
    }

    private static void badLigature(int first, int second, int third) {
        String places = first + ", " + second + ", " + third;
        for (int count : new int[] {0, 1, 21}) {
            for (boolean stem : new boolean[] {false, true}) {
                Boundary.refuses("addLigature(0, " + places + ", " + stem + ") behind " + count, Boundary.BAD,
                        () -> Boundary.notes(count), x -> x.addLigature(0, first, second, third, stem));
            }
        }
    }

    private static void goodLigature(int first, int second, int third) {
        String places = first + ", " + second + ", " + third;
        for (boolean stem : new boolean[] {false, true}) {
            Boundary.answers("addLigature(0, " + places + ", " + stem + ")", 1, () -> Boundary.notes(1),
                    x -> x.addLigature(0, first, second, third, stem));
        }
    }

    private static void room(int count, int third, int more) {
        String call = "addLigature of " + more + " behind " + count;
        for (boolean stem : new boolean[] {false, true}) {
            if (count + more > 24) {
                Boundary.refuses(call, Boundary.NOT_NOW, () -> Boundary.notes(count),
                        x -> x.addLigature(0, 4, 5, third, stem));
            } else {
                Boundary.answers(call, count, () -> Boundary.notes(count), x -> x.addLigature(0, 4, 5, third, stem));
                Boundary.answers("signs(0) after " + call, count + more, () -> {
                    ChoirNotes x = Boundary.notes(count);
                    x.addLigature(0, 4, 5, third, stem);
                    return x;
                }, x -> x.signs(0));
            }
        }
    }

    private static void promise6() {
        Boundary.test(6, "Erases the last sign; of a ligature all of its notes.", () -> {
            for (int ahead : new int[] {0, 1, 21}) {
                erased("a note", ahead, x -> x.addNote(0, 1, 5, true));
                erased("a rest", ahead, x -> x.addRest(0, 1));
                erased("a ligature of two", ahead, x -> x.addLigature(0, 5, 3, -1, false));
                erased("a ligature of three", ahead, x -> x.addLigature(0, 5, 3, 6, true));
            }
            Boundary.answers("signs(0) after one of two ligatures is erased", 2, () -> {
                ChoirNotes x = ligature(3, 2, -1);
                x.addLigature(0, 1, 2, 3, false);
                x.erase(0);
                return x;
            }, x -> x.signs(0));
            Boundary.answers("signs(0) after a note behind a ligature is erased", 3, () -> {
                ChoirNotes x = ligature(3, 2, 1);
                x.addNote(0, 3, 1, false);
                x.erase(0);
                return x;
            }, x -> x.signs(0));
            Boundary.answers("signs(0) after a ligature whose last note is coloured is erased", 0, () -> {
                ChoirNotes x = ligature(3, 2, 1);
                x.recolour(0, 2);
                x.erase(0);
                return x;
            }, x -> x.signs(0));
        });
        Boundary.test(6, "Returns how many signs are erased.", () -> {
            Boundary.answers("erase of a note", 1, () -> Boundary.notes(1), x -> x.erase(0));
            Boundary.answers("erase of the 24th note", 1, () -> Boundary.notes(24), x -> x.erase(0));
            Boundary.answers("erase of two", 2, () -> ligature(0, 9, -1), x -> x.erase(0));
            Boundary.answers("erase of three", 3, () -> ligature(0, 9, 0), x -> x.erase(0));
            Boundary.answers("erase of the last three of 24", 3, WritingBoundaries::fullLigatures, x -> x.erase(0));
        });
        Boundary.test(6, "Throws `IndexOutOfBoundsException` if there is no such voice", () ->
                Boundary.refusesNoVoice("erase", (x, voice) -> x.erase(voice)));
        Boundary.test(6, "Throws `IllegalStateException` if there is none", () -> {
            Boundary.refuses("erase of an empty voice", Boundary.NOT_NOW, () -> Boundary.notes(0), x -> x.erase(0));
            Boundary.refuses("erase of an empty voice beside others", Boundary.NOT_NOW, () -> {
                ChoirNotes x = Boundary.ready(3);
                x.erase(1);
                return x;
            }, x -> x.erase(1));
            Boundary.refuses("erase behind a ligature's erase", Boundary.NOT_NOW, () -> {
                ChoirNotes x = ligature(1, 2, 3);
                x.erase(0);
                return x;
            }, x -> x.erase(0));
            Boundary.answers("erase of one sign", 1, () -> Boundary.notes(1), x -> x.erase(0));
            Boundary.answers("erase of two signs, twice", 2, () -> Boundary.notes(2), x -> x.erase(0) + x.erase(0));
        });
    }

    /** What is written and erased again leaves the voice as it was. */
    private static void erased(String sign, int ahead, Boundary.Ask write) {
        Boundary.changesNothing("the erase of " + sign + " behind " + ahead, () -> Boundary.notes(ahead), x -> {
            write.of(x);
            return x.erase(0);
        });
    }

    private static void promise7() {
        Boundary.test(7, "Colours a note, or takes its colour away.", () -> {
            for (int sign : new int[] {0, 1, 22, 23}) {
                Boundary.Recipe once = () -> {
                    ChoirNotes x = Boundary.longas(1, 24);
                    x.recolour(0, sign);
                    return x;
                };
                Boundary.answers("isColoured", true, once, x -> x.isColoured(0, sign));
                Boundary.answers("lengthOf", 18, once, x -> x.lengthOf(0, sign));
                Boundary.answers("length", 639, once, x -> x.length(0));
                Boundary.answers("isColoured of the next one", false, once, x -> x.isColoured(0, (sign + 1) % 24));
                Boundary.changesNothing("recolour, twice", () -> Boundary.longas(1, 24), x -> {
                    x.recolour(0, sign);
                    return x.recolour(0, sign);
                });
            }
        });
        Boundary.test(7, "Returns whether it is coloured then.", () -> {
            Boundary.answers("recolour of a note", true, () -> Boundary.notes(1), x -> x.recolour(0, 0));
            Boundary.answers("recolour of a ligature's note", true, () -> ligature(1, 2, 3), x -> x.recolour(0, 1));
            Boundary.answers("recolour, twice", false, () -> {
                ChoirNotes x = Boundary.notes(1);
                x.recolour(0, 0);
                return x;
            }, x -> x.recolour(0, 0));
            Boundary.answers("recolour of a note that was written coloured", false, () -> {
                ChoirNotes x = Boundary.notes(0);
                x.addNote(0, 3, 0, true);
                return x;
            }, x -> x.recolour(0, 0));
        });
        Boundary.test(7, "Throws `IndexOutOfBoundsException` if there is no such voice, or it has no such sign", () -> {
            Boundary.refusesNoVoice("recolour", (x, voice) -> x.recolour(voice, 0));
            Boundary.refusesNoSign("recolour", (x, voice, sign) -> x.recolour(voice, sign));
        });
        Boundary.test(7, "Throws `IllegalStateException` if it is a rest", () -> {
            Boundary.Recipe book = () -> {
                ChoirNotes x = Boundary.notes(1);
                for (int kind = 0; kind < 4; kind++) {
                    x.addRest(0, kind);
                }
                x.addNote(0, 0, 0, false);
                return x;
            };
            for (int rest = 1; rest <= 4; rest++) {
                int sign = rest;
                Boundary.refuses("recolour of rest " + rest, Boundary.NOT_NOW, book, x -> x.recolour(0, sign));
            }
            Boundary.answers("recolour of the note ahead of them", true, book, x -> x.recolour(0, 0));
            Boundary.answers("recolour of the note behind them, on place 0", true, book, x -> x.recolour(0, 5));
        });
    }

    private static void promise8() {
        Boundary.test(8, "- `clef`: its clef from now on; -1 for none", () -> {
            for (int clef = -1; clef <= 5; clef++) {
                int due = clef;
                Boundary.answers("clefOf after setClef(0, " + clef + ")", due, () -> withClef(due), x -> x.clefOf(0));
            }
            Boundary.refuses("pitchOf after setClef(0, -1)", Boundary.NOT_NOW, () -> withClef(-1), x -> x.pitchOf(0, 0));
            Boundary.answers("pitchOf after setClef(0, 0)", 4, () -> withClef(0), x -> x.pitchOf(0, 0));
        });
        Boundary.test(8, "Returns the one before; -1 for none.", () -> {
            Boundary.answers("the first setClef", -1, () -> Boundary.emptyVoices(1), x -> x.setClef(0, 3));
            for (int before = -1; before <= 5; before++) {
                int due = before;
                for (int clef = -1; clef <= 5; clef++) {
                    int next = clef;
                    Boundary.answers("setClef(0, " + clef + ")", due, () -> withClef(due), x -> x.setClef(0, next));
                }
            }
            Boundary.answers("setClef after another voice's", -1, () -> {
                ChoirNotes x = Boundary.emptyVoices(2);
                x.setClef(1, 5);
                return x;
            }, x -> x.setClef(0, 0));
        });
        Boundary.test(8, "Throws `IndexOutOfBoundsException` if there is no such voice", () ->
                Boundary.refusesNoVoice("setClef", (x, voice) -> x.setClef(voice, 0)));
        Boundary.test(8, "Throws `IllegalArgumentException` if clef is not -1 to 5", () -> {
            for (int before : new int[] {-1, 0, 5}) {
                for (int wrong : new int[] {-2, 6, -3, 7, Boundary.LEAST, Boundary.MOST}) {
                    Boundary.refuses("setClef(0, " + wrong + ")", Boundary.BAD, () -> withClef(before),
                            x -> x.setClef(0, wrong));
                }
                for (int right : new int[] {-1, 0, 1, 4, 5}) {
                    Boundary.answers("setClef(0, " + right + ")", before, () -> withClef(before),
                            x -> x.setClef(0, right));
                }
            }
        });
    }

    private static ChoirNotes withClef(int clef) {
        ChoirNotes x = Boundary.notes(1);
        x.setClef(0, clef);
        return x;
    }

    private static void promise9() {
        Boundary.test(9, "Returns how long the voice is then.", () -> {
            for (int m = 0; m < 8; m++) {
                int b = 2 + m / 4;
                int s = 2 + m / 2 % 2;
                int n = 2 + m % 2;
                String call = "setMensuration(0, " + b + ", " + s + ", " + n + ")";
                Boundary.answers(call + " of nothing", 0, () -> Boundary.notes(0), x -> x.setMensuration(0, b, s, n));
                Boundary.answers(call + " of a minim", 1, () -> Boundary.notes(1), x -> x.setMensuration(0, b, s, n));
                Boundary.answers(call + " of 24 longas", 24 * b * s * n, () -> Boundary.longas(1, 24),
                        x -> x.setMensuration(0, b, s, n));
                Boundary.answers("length(0) after " + call, 24 * b * s * n, () -> {
                    ChoirNotes x = Boundary.longas(1, 24);
                    x.setMensuration(0, b, s, n);
                    return x;
                }, x -> x.length(0));
            }
            Boundary.changesNothing("setMensuration to what it was", () -> Boundary.longas(1, 24),
                    x -> x.setMensuration(0, 3, 3, 3));
            Boundary.answers("length of another voice", 12, () -> {
                ChoirNotes x = Boundary.ready(2);
                x.addRest(1, 1);
                x.setMensuration(0, 3, 2, 3);
                return x;
            }, x -> x.length(1));
        });
        Boundary.test(9, "Throws `IndexOutOfBoundsException` if there is no such voice", () ->
                Boundary.refusesNoVoice("setMensuration", (x, voice) -> x.setMensuration(voice, 3, 3, 3)));
        Boundary.test(9, "Throws `IllegalArgumentException` if one of them is not 2 or 3", () -> {
            for (int right : new int[] {2, 3}) {
                for (int wrong : WRONG_NUMBERS) {
                    badMensuration(wrong, right, right);
                    badMensuration(right, wrong, right);
                    badMensuration(right, right, wrong);
                    badMensuration(wrong, wrong, wrong);
                }
            }
            Boundary.answers("setMensuration(0, 2, 2, 2)", 8, () -> Boundary.longas(1, 1), x -> x.setMensuration(0, 2, 2, 2));
            Boundary.answers("setMensuration(0, 3, 3, 3)", 27, () -> Boundary.longas(1, 1), x -> x.setMensuration(0, 3, 3, 3));
        });
    }

    private static void badMensuration(int breves, int semibreves, int minims) {
        String call = "setMensuration(0, " + breves + ", " + semibreves + ", " + minims + ")";
        Boundary.refuses(call, Boundary.BAD, () -> Boundary.ready(2), x -> x.setMensuration(0, breves, semibreves, minims));
        Boundary.refuses(call, Boundary.BAD, () -> Boundary.notes(24), x -> x.setMensuration(0, breves, semibreves, minims));
    }
}
