/** A choirbook in white notes. */
public final class ChoirNotes {
    private static final int MOST_VOICES = 4;
    private static final int MOST_SIGNS = 24;

    private static final int LONGA = 0;
    private static final int BREVE = 1;
    private static final int SEMIBREVE = 2;
    private static final int MINIM = 3;

    private static final int HIGHEST_PLACE = 9;
    private static final int HIGHEST_CLEF = 5;
    private static final int LOWEST_PITCH = 3;
    private static final int HIGHEST_PITCH = 16;
    private static final int LONGEST_DELAY = 48;
    private static final int FARTHEST_UP = 7;

    /** Stands for what is missing: a clef, a rest's place, a sign, a time, a ligature's third note. */
    private static final int NONE = -1;

    private static final long DIGEST_START = 2311L;
    private static final int DIGEST_DELAY = 4;
    private static final int DIGEST_UP = 4;

    /** All voices are made with the book, so that no later call makes any object. */
    private final Voice[] book = new Voice[MOST_VOICES];
    private int voiceCount;

    public ChoirNotes() {
        for (int i = 0; i < MOST_VOICES; i++) {
            book[i] = new Voice();
        }
    }

    // ---- writing

    public int addVoice(int breves, int semibreves, int minims)
            throws IllegalArgumentException, IllegalStateException {
        checkMensuration(breves, semibreves, minims);
        if (voiceCount >= MOST_VOICES) {
            throw new IllegalStateException("the book has all its voices");
        }
        book[voiceCount].measure(breves, semibreves, minims);
        voiceCount++;
        return voiceCount - 1;
    }

    public int addNote(int voice, int kind, int place, boolean isColoured)
            throws IndexOutOfBoundsException, IllegalArgumentException, IllegalStateException {
        Voice v = knownVoice(voice);
        checkRange(kind, LONGA, MINIM);
        checkRange(place, 0, HIGHEST_PLACE);
        checkRoom(v, 1);
        return v.append(kind, place, isColoured, NONE);
    }

    public int addRest(int voice, int kind)
            throws IndexOutOfBoundsException, IllegalArgumentException, IllegalStateException {
        Voice v = knownVoice(voice);
        checkRange(kind, LONGA, MINIM);
        checkRoom(v, 1);
        return v.append(kind, NONE, false, NONE);
    }

    public int addLigature(int voice, int first, int second, int third, boolean hasStem)
            throws IndexOutOfBoundsException, IllegalArgumentException, IllegalStateException {
        Voice v = knownVoice(voice);
        checkLigature(first, second, third);
        boolean hasThird = third != NONE;
        checkRoom(v, hasThird ? 3 : 2);
        int number = v.append(firstKind(first, second, hasStem), first, false, 0);
        v.append(secondKind(first, second, hasThird, hasStem), second, false, 1);
        if (hasThird) {
            v.append(lastKind(second, third), third, false, 2);
        }
        return number;
    }

    public int erase(int voice) throws IndexOutOfBoundsException, IllegalStateException {
        Voice v = knownVoice(voice);
        if (v.count == 0) {
            throw new IllegalStateException("there is no sign to erase");
        }
        return v.dropLast();
    }

    public boolean recolour(int voice, int sign) throws IndexOutOfBoundsException, IllegalStateException {
        Voice v = voiceWithSign(voice, sign);
        if (v.isRest(sign)) {
            throw new IllegalStateException("a rest has no colour");
        }
        return v.turnColour(sign);
    }

    public int setClef(int voice, int clef) throws IndexOutOfBoundsException, IllegalArgumentException {
        Voice v = knownVoice(voice);
        checkRange(clef, NONE, HIGHEST_CLEF);
        int before = v.clef;
        v.clef = clef;
        return before;
    }

    public int setMensuration(int voice, int breves, int semibreves, int minims)
            throws IndexOutOfBoundsException, IllegalArgumentException {
        Voice v = knownVoice(voice);
        checkMensuration(breves, semibreves, minims);
        v.measure(breves, semibreves, minims);
        return v.end();
    }

    // ---- signs

    public int voices() {
        return voiceCount;
    }

    public int signs(int voice) throws IndexOutOfBoundsException {
        return knownVoice(voice).count;
    }

    public int notes(int voice) throws IndexOutOfBoundsException {
        return knownVoice(voice).countNotes();
    }

    public int ligatures(int voice) throws IndexOutOfBoundsException {
        return knownVoice(voice).countLigatures();
    }

    public int kindOf(int voice, int sign) throws IndexOutOfBoundsException {
        return voiceWithSign(voice, sign).kinds[sign];
    }

    public int placeOf(int voice, int sign) throws IndexOutOfBoundsException {
        return voiceWithSign(voice, sign).places[sign];
    }

    public boolean isColoured(int voice, int sign) throws IndexOutOfBoundsException {
        return voiceWithSign(voice, sign).colours[sign];
    }

    public int placeInLigature(int voice, int sign) throws IndexOutOfBoundsException {
        return voiceWithSign(voice, sign).ranks[sign];
    }

    // ---- time

    public int lengthOf(int voice, int sign) throws IndexOutOfBoundsException {
        return voiceWithSign(voice, sign).minimsOf(sign);
    }

    public int beginOf(int voice, int sign) throws IndexOutOfBoundsException {
        return voiceWithSign(voice, sign).begins[sign];
    }

    public int length(int voice) throws IndexOutOfBoundsException {
        return knownVoice(voice).end();
    }

    public int longest() {
        int most = 0;
        for (int i = 0; i < voiceCount; i++) {
            most = Math.max(most, book[i].end());
        }
        return most;
    }

    public int signAt(int voice, int time) throws IndexOutOfBoundsException, IllegalArgumentException {
        Voice v = knownVoice(voice);
        checkRange(time, 0, Integer.MAX_VALUE);
        return v.signLastingAt(time);
    }

    // ---- pitches

    public int clefOf(int voice) throws IndexOutOfBoundsException {
        return knownVoice(voice).clef;
    }

    public int pitchOf(int voice, int sign) throws IndexOutOfBoundsException, IllegalStateException {
        Voice v = voiceWithSign(voice, sign);
        checkHasClef(v);
        return v.isRest(sign) ? NONE : v.places[sign] + 2 * v.clef;
    }

    public boolean fits(int voice, int clef) throws IndexOutOfBoundsException, IllegalArgumentException {
        Voice v = knownVoice(voice);
        checkRange(clef, 0, HIGHEST_CLEF);
        return v.wouldFit(clef);
    }

    public int clefsThatFit(int voice) throws IndexOutOfBoundsException {
        return knownVoice(voice).countFittingClefs();
    }

    public int clashes(int one, int other) throws IndexOutOfBoundsException, IllegalStateException {
        Voice a = knownVoice(one);
        Voice b = knownVoice(other);
        checkHasClef(a);
        checkHasClef(b);
        return clashingMinims(a, b, 0, 2 * (b.clef - a.clef));
    }

    public int firstClash(int one, int other) throws IndexOutOfBoundsException, IllegalStateException {
        Voice a = knownVoice(one);
        Voice b = knownVoice(other);
        checkHasClef(a);
        checkHasClef(b);
        return firstClashingMinim(a, b, 2 * (b.clef - a.clef));
    }

    // ---- what would be

    public int clashesWith(int voice, int clef) throws IndexOutOfBoundsException, IllegalArgumentException {
        Voice v = knownVoice(voice);
        checkRange(clef, 0, HIGHEST_CLEF);
        return clashesIfClef(v, clef);
    }

    public int bestClef(int voice) throws IndexOutOfBoundsException {
        return clefWithFewestClashes(knownVoice(voice));
    }

    public int canonClashes(int voice, int delay, int up)
            throws IndexOutOfBoundsException, IllegalArgumentException {
        Voice v = knownVoice(voice);
        checkRange(delay, 1, LONGEST_DELAY);
        checkRange(up, -FARTHEST_UP, FARTHEST_UP);
        return clashingMinims(v, v, delay, up);
    }

    public int bestDelay(int voice, int up) throws IndexOutOfBoundsException, IllegalArgumentException {
        Voice v = knownVoice(voice);
        checkRange(up, -FARTHEST_UP, FARTHEST_UP);
        return delayWithFewestClashes(v, up);
    }

    public double meanLength() {
        if (voiceCount == 0) {
            return 0.0;
        }
        int minims = 0;
        for (int i = 0; i < voiceCount; i++) {
            minims += book[i].end();
        }
        return (double) minims / voiceCount;
    }

    public long digest() {
        long d = mix(DIGEST_START, voiceCount);
        d = mix(d, longest());
        for (int i = 0; i < voiceCount; i++) {
            d = mixVoice(d, book[i]);
        }
        return d;
    }

    // ---- what may be asked

    private Voice knownVoice(int voice) {
        if (voice < 0 || voice >= voiceCount) {
            throw new IndexOutOfBoundsException("no such voice");
        }
        return book[voice];
    }

    private Voice voiceWithSign(int voice, int sign) {
        Voice v = knownVoice(voice);
        if (sign < 0 || sign >= v.count) {
            throw new IndexOutOfBoundsException("no such sign");
        }
        return v;
    }

    private static void checkRange(int number, int least, int most) {
        if (number < least || number > most) {
            throw new IllegalArgumentException("a number is out of its range");
        }
    }

    private static void checkMensuration(int breves, int semibreves, int minims) {
        checkRange(breves, 2, 3);
        checkRange(semibreves, 2, 3);
        checkRange(minims, 2, 3);
    }

    private static void checkLigature(int first, int second, int third) {
        checkRange(first, 0, HIGHEST_PLACE);
        checkRange(second, 0, HIGHEST_PLACE);
        checkRange(third, NONE, HIGHEST_PLACE);
        if (second == first || third == second) {
            throw new IllegalArgumentException("a ligature's note is on the place of the one ahead");
        }
    }

    private static void checkRoom(Voice v, int more) {
        if (v.count + more > MOST_SIGNS) {
            throw new IllegalStateException("the voice has no room for so many signs");
        }
    }

    private static void checkHasClef(Voice v) {
        if (v.clef == NONE) {
            throw new IllegalStateException("the clef is missing");
        }
    }

    // ---- a ligature's kinds

    private static int firstKind(int first, int second, boolean hasStem) {
        return hasStem ? SEMIBREVE : lastKind(first, second);
    }

    private static int secondKind(int first, int second, boolean hasThird, boolean hasStem) {
        if (hasStem) {
            return SEMIBREVE;
        }
        return hasThird ? BREVE : lastKind(first, second);
    }

    private static int lastKind(int ahead, int last) {
        return last < ahead ? LONGA : BREVE;
    }

    // ---- clashes

    /**
     * In how many minims both clash, if the other voice sings so much later and higher. Goes from
     * sign to sign and not from minim to minim, as bestDelay and digest ask this very often.
     */
    private static int clashingMinims(Voice one, Voice other, int delay, int up) {
        int minims = 0;
        int i = 0;
        int j = 0;
        while (i < one.count && j < other.count) {
            int oneEnd = one.begins[i + 1];
            int otherEnd = other.begins[j + 1] + delay;
            int begin = Math.max(one.begins[i], other.begins[j] + delay);
            int end = Math.min(oneEnd, otherEnd);
            // Two signs that are met here share no minim, if one has ended before the other one begins.
            if (begin < end && signsClash(one, i, other, j, up)) {
                minims += end - begin;
            }
            if (oneEnd <= otherEnd) {
                i++;
            } else {
                j++;
            }
        }
        return minims;
    }

    private static int firstClashingMinim(Voice one, Voice other, int up) {
        int i = 0;
        int j = 0;
        while (i < one.count && j < other.count) {
            int oneEnd = one.begins[i + 1];
            int otherEnd = other.begins[j + 1];
            int begin = Math.max(one.begins[i], other.begins[j]);
            int end = Math.min(oneEnd, otherEnd);
            // Where two signs have ended together, the next of one still meets the old one of the other.
            if (begin < end && signsClash(one, i, other, j, up)) {
                return begin;
            }
            if (oneEnd <= otherEnd) {
                i++;
            } else {
                j++;
            }
        }
        return NONE;
    }

    private static boolean signsClash(Voice one, int i, Voice other, int j, int up) {
        if (one.isRest(i) || other.isRest(j)) {
            return false;
        }
        int rest = Math.abs(one.places[i] - other.places[j] - up) % 7;
        return rest == 1 || rest == 3 || rest == 6;
    }

    private int clashesIfClef(Voice v, int clef) {
        int minims = 0;
        for (int i = 0; i < voiceCount; i++) {
            Voice other = book[i];
            if (other != v && other.clef != NONE) {
                minims += clashingMinims(v, other, 0, 2 * (other.clef - clef));
            }
        }
        return minims;
    }

    private int clefWithFewestClashes(Voice v) {
        int best = NONE;
        int fewest = Integer.MAX_VALUE;
        for (int clef = 0; clef <= HIGHEST_CLEF; clef++) {
            if (v.wouldFit(clef)) {
                int minims = clashesIfClef(v, clef);
                if (minims < fewest) {
                    best = clef;
                    fewest = minims;
                }
            }
        }
        return best;
    }

    private static int delayWithFewestClashes(Voice v, int up) {
        int best = NONE;
        int fewest = Integer.MAX_VALUE;
        for (int delay = 1; delay <= LONGEST_DELAY; delay++) {
            int minims = clashingMinims(v, v, delay, up);
            if (minims < fewest) {
                best = delay;
                fewest = minims;
            }
        }
        return best;
    }

    // ---- the checksum

    private static long mix(long d, int x) {
        return d * 31L + x;
    }

    private long mixVoice(long before, Voice v) {
        long d = mix(before, v.count);
        d = mix(d, v.countNotes());
        d = mix(d, v.countLigatures());
        d = mix(d, v.end());
        d = mix(d, v.clef);
        d = mix(d, v.countFittingClefs());
        d = mix(d, clefWithFewestClashes(v));
        d = mix(d, clashingMinims(v, v, DIGEST_DELAY, 0));
        d = mix(d, delayWithFewestClashes(v, DIGEST_UP));
        for (int sign = 0; sign < v.count; sign++) {
            d = mixSign(d, v, sign);
        }
        return d;
    }

    private static long mixSign(long before, Voice v, int sign) {
        long d = mix(before, v.kinds[sign]);
        d = mix(d, v.places[sign]);
        d = mix(d, v.ranks[sign]);
        d = mix(d, v.minimsOf(sign));
        return mix(d, v.begins[sign]);
    }

    /** One voice: its mensuration, its clef and its row of signs. */
    private static final class Voice {
        private int brevesInLonga;
        private int semibrevesInBreve;
        private int minimsInSemibreve;
        private int clef = NONE;
        private int count;
        private final int[] kinds = new int[MOST_SIGNS];
        private final int[] places = new int[MOST_SIGNS];
        private final boolean[] colours = new boolean[MOST_SIGNS];
        /** How many notes of its ligature stand ahead of a sign in it. */
        private final int[] ranks = new int[MOST_SIGNS];
        /** When each sign begins and, one further, when the last one ends: kept, as every clash asks it. */
        private final int[] begins = new int[MOST_SIGNS + 1];

        private void measure(int breves, int semibreves, int minims) {
            brevesInLonga = breves;
            semibrevesInBreve = semibreves;
            minimsInSemibreve = minims;
            timeFrom(0);
        }

        /** The caller has seen that there is room. */
        private int append(int kind, int place, boolean coloured, int rank) {
            int sign = count;
            kinds[sign] = kind;
            places[sign] = place;
            colours[sign] = coloured;
            ranks[sign] = rank;
            count++;
            timeFrom(sign);
            return sign;
        }

        /** The caller has seen that there is a sign. */
        private int dropLast() {
            int rank = ranks[count - 1];
            int dropped = rank == NONE ? 1 : rank + 1;
            count -= dropped;
            return dropped;
        }

        private boolean turnColour(int sign) {
            colours[sign] = !colours[sign];
            timeFrom(sign);
            return colours[sign];
        }

        private void timeFrom(int first) {
            for (int sign = first; sign < count; sign++) {
                begins[sign + 1] = begins[sign] + minimsByKind(kinds[sign], colours[sign]);
            }
        }

        private int minimsByKind(int kind, boolean coloured) {
            switch (kind) {
                case LONGA:
                    return (coloured ? 2 : brevesInLonga) * semibrevesInBreve * minimsInSemibreve;
                case BREVE:
                    return (coloured ? 2 : semibrevesInBreve) * minimsInSemibreve;
                case SEMIBREVE:
                    return coloured ? 2 : minimsInSemibreve;
                default:
                    return 1;
            }
        }

        private int minimsOf(int sign) {
            return begins[sign + 1] - begins[sign];
        }

        private int end() {
            return begins[count];
        }

        private int signLastingAt(int time) {
            for (int sign = 0; sign < count; sign++) {
                if (time < begins[sign + 1]) {
                    return sign;
                }
            }
            return NONE;
        }

        private boolean isRest(int sign) {
            return places[sign] == NONE;
        }

        private int countNotes() {
            int found = 0;
            for (int sign = 0; sign < count; sign++) {
                if (!isRest(sign)) {
                    found++;
                }
            }
            return found;
        }

        private int countLigatures() {
            int found = 0;
            for (int sign = 0; sign < count; sign++) {
                if (ranks[sign] == 0) {
                    found++;
                }
            }
            return found;
        }

        private boolean wouldFit(int otherClef) {
            for (int sign = 0; sign < count; sign++) {
                int pitch = places[sign] + 2 * otherClef;
                if (!isRest(sign) && (pitch < LOWEST_PITCH || pitch > HIGHEST_PITCH)) {
                    return false;
                }
            }
            return true;
        }

        private int countFittingClefs() {
            int found = 0;
            for (int clefNumber = 0; clefNumber <= HIGHEST_CLEF; clefNumber++) {
                if (wouldFit(clefNumber)) {
                    found++;
                }
            }
            return found;
        }
    }
}
