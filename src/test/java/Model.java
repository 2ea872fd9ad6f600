import java.util.ArrayList;
import java.util.List;

/**
 * A second, plain reading of the document, to hold ChoirNotes against: it keeps a list of signs, adds up
 * lengths anew each time, and looks at every minim on its own.
 */
public final class Model {
    private static final class Sign {
        int kind;
        int place = -1;
        boolean coloured;
        int ahead = -1;
    }

    private static final class Part {
        int[] mensuration;
        int clef = -1;
        final List<Sign> signs = new ArrayList<>();
    }

    private final List<Part> parts = new ArrayList<>();

    private Part part(int voice) {
        if (voice < 0 || voice >= parts.size()) {
            throw new IndexOutOfBoundsException();
        }
        return parts.get(voice);
    }

    private Sign sign(int voice, int sign) {
        List<Sign> signs = part(voice).signs;
        if (sign < 0 || sign >= signs.size()) {
            throw new IndexOutOfBoundsException();
        }
        return signs.get(sign);
    }

    private static void argument(boolean good) {
        if (!good) {
            throw new IllegalArgumentException();
        }
    }

    private static void state(boolean good) {
        if (!good) {
            throw new IllegalStateException();
        }
    }

    private static void mensuration(int... numbers) {
        for (int number : numbers) {
            argument(number == 2 || number == 3);
        }
    }

    public int addVoice(int breves, int semibreves, int minims) {
        mensuration(breves, semibreves, minims);
        state(parts.size() != 4);
        Part p = new Part();
        p.mensuration = new int[] {breves, semibreves, minims};
        parts.add(p);
        return parts.size() - 1;
    }

    private static int write(Part p, int kind, int place, boolean coloured, int ahead) {
        Sign s = new Sign();
        s.kind = kind;
        s.place = place;
        s.coloured = coloured;
        s.ahead = ahead;
        p.signs.add(s);
        return p.signs.size() - 1;
    }

    public int addNote(int voice, int kind, int place, boolean isColoured) {
        Part p = part(voice);
        argument(kind >= 0 && kind <= 3 && place >= 0 && place <= 9);
        state(p.signs.size() < 24);
        return write(p, kind, place, isColoured, -1);
    }

    public int addRest(int voice, int kind) {
        Part p = part(voice);
        argument(kind >= 0 && kind <= 3);
        state(p.signs.size() < 24);
        return write(p, kind, -1, false, -1);
    }

    public int addLigature(int voice, int first, int second, int third, boolean hasStem) {
        Part p = part(voice);
        argument(first >= 0 && first <= 9 && second >= 0 && second <= 9 && third >= -1 && third <= 9);
        argument(first != second && second != third);
        int[] places = third == -1 ? new int[] {first, second} : new int[] {first, second, third};
        state(p.signs.size() + places.length <= 24);
        int number = p.signs.size();
        for (int i = 0; i < places.length; i++) {
            write(p, ligatureKind(places, i, hasStem), places[i], false, i);
        }
        return number;
    }

    private static int ligatureKind(int[] places, int i, boolean hasStem) {
        if (hasStem && i < 2) {
            return 2;
        }
        if (i == places.length - 1) {
            return places[i] < places[i - 1] ? 0 : 1;
        }
        return i == 0 && places[1] < places[0] ? 0 : 1;
    }

    public int erase(int voice) {
        Part p = part(voice);
        state(!p.signs.isEmpty());
        int erased = 0;
        boolean more = true;
        while (more) {
            Sign s = p.signs.remove(p.signs.size() - 1);
            erased++;
            more = s.ahead > 0;
        }
        return erased;
    }

    public boolean recolour(int voice, int sign) {
        Sign s = sign(voice, sign);
        state(s.place != -1);
        s.coloured = !s.coloured;
        return s.coloured;
    }

    public int setClef(int voice, int clef) {
        Part p = part(voice);
        argument(clef >= -1 && clef <= 5);
        int before = p.clef;
        p.clef = clef;
        return before;
    }

    public int setMensuration(int voice, int breves, int semibreves, int minims) {
        Part p = part(voice);
        mensuration(breves, semibreves, minims);
        p.mensuration = new int[] {breves, semibreves, minims};
        return length(voice);
    }

    public int voices() {
        return parts.size();
    }

    public int signs(int voice) {
        return part(voice).signs.size();
    }

    public int notes(int voice) {
        return (int) part(voice).signs.stream().filter(s -> s.place != -1).count();
    }

    public int ligatures(int voice) {
        return (int) part(voice).signs.stream().filter(s -> s.ahead == 0).count();
    }

    public int kindOf(int voice, int sign) {
        return sign(voice, sign).kind;
    }

    public int placeOf(int voice, int sign) {
        return sign(voice, sign).place;
    }

    public boolean isColoured(int voice, int sign) {
        return sign(voice, sign).coloured;
    }

    public int placeInLigature(int voice, int sign) {
        return sign(voice, sign).ahead;
    }

    public int lengthOf(int voice, int sign) {
        Sign s = sign(voice, sign);
        int minims = 1;
        for (int kind = 2; kind >= s.kind; kind--) {
            minims *= s.coloured && kind == s.kind ? 2 : part(voice).mensuration[kind];
        }
        return minims;
    }

    public int beginOf(int voice, int sign) {
        sign(voice, sign);
        int minims = 0;
        for (int s = 0; s < sign; s++) {
            minims += lengthOf(voice, s);
        }
        return minims;
    }

    public int length(int voice) {
        return sung(voice).length;
    }

    /** The sign that each minim has. */
    private int[] sung(int voice) {
        List<Integer> minims = new ArrayList<>();
        for (int s = 0; s < part(voice).signs.size(); s++) {
            for (int left = lengthOf(voice, s); left > 0; left--) {
                minims.add(s);
            }
        }
        return minims.stream().mapToInt(Integer::intValue).toArray();
    }

    public int longest() {
        int most = 0;
        for (int v = 0; v < parts.size(); v++) {
            most = length(v) > most ? length(v) : most;
        }
        return most;
    }

    public int signAt(int voice, int time) {
        int[] sung = sung(voice);
        argument(time >= 0);
        return time < sung.length ? sung[time] : -1;
    }

    public int clefOf(int voice) {
        return part(voice).clef;
    }

    public int pitchOf(int voice, int sign) {
        Sign s = sign(voice, sign);
        state(part(voice).clef != -1);
        return s.place == -1 ? -1 : s.place + part(voice).clef * 2;
    }

    public boolean fits(int voice, int clef) {
        Part p = part(voice);
        argument(clef >= 0 && clef <= 5);
        return p.signs.stream().filter(s -> s.place != -1)
                .allMatch(s -> s.place + 2 * clef >= 3 && s.place + 2 * clef <= 16);
    }

    public int clefsThatFit(int voice) {
        int found = 0;
        for (int clef = 0; clef <= 5; clef++) {
            found += fits(voice, clef) ? 1 : 0;
        }
        return found;
    }

    /** The pitch of each minim, this much later and higher; null where no note lasts. */
    private Integer[] heard(int voice, int clef, int delay, int up) {
        int[] sung = sung(voice);
        Integer[] heard = new Integer[sung.length + delay];
        for (int t = 0; t < sung.length; t++) {
            int place = placeOf(voice, sung[t]);
            heard[t + delay] = place == -1 ? null : Integer.valueOf(place + 2 * clef + up);
        }
        return heard;
    }

    private static List<Integer> clashTimes(Integer[] one, Integer[] other) {
        List<Integer> times = new ArrayList<>();
        for (int t = 0; t < one.length && t < other.length; t++) {
            if (one[t] != null && other[t] != null) {
                int high = Math.max(one[t], other[t]);
                int low = Math.min(one[t], other[t]);
                int rest = (high - low) % 7;
                if (rest == 1 || rest == 3 || rest == 6) {
                    times.add(t);
                }
            }
        }
        return times;
    }

    private List<Integer> clashTimes(int one, int other) {
        Part a = part(one);
        Part b = part(other);
        state(a.clef != -1 && b.clef != -1);
        return clashTimes(heard(one, a.clef, 0, 0), heard(other, b.clef, 0, 0));
    }

    public int clashes(int one, int other) {
        return clashTimes(one, other).size();
    }

    public int firstClash(int one, int other) {
        List<Integer> times = clashTimes(one, other);
        return times.isEmpty() ? -1 : times.get(0);
    }

    public int clashesWith(int voice, int clef) {
        Part p = part(voice);
        argument(clef >= 0 && clef <= 5);
        int before = p.clef;
        p.clef = clef;
        int sum = 0;
        for (int v = 0; v < parts.size(); v++) {
            sum += v != voice && parts.get(v).clef != -1 ? clashes(voice, v) : 0;
        }
        p.clef = before;
        return sum;
    }

    public int bestClef(int voice) {
        part(voice);
        int best = -1;
        for (int clef = 5; clef >= 0; clef--) {
            if (fits(voice, clef) && (best == -1 || clashesWith(voice, clef) <= clashesWith(voice, best))) {
                best = clef;
            }
        }
        return best;
    }

    public int canonClashes(int voice, int delay, int up) {
        part(voice);
        argument(delay >= 1 && delay <= 48 && up >= -7 && up <= 7);
        return clashTimes(heard(voice, 0, 0, 0), heard(voice, 0, delay, up)).size();
    }

    public int bestDelay(int voice, int up) {
        part(voice);
        argument(up >= -7 && up <= 7);
        int best = 48;
        int fewest = canonClashes(voice, 48, up);
        for (int delay = 47; delay >= 1; delay--) {
            int minims = canonClashes(voice, delay, up);
            if (minims <= fewest) {
                best = delay;
                fewest = minims;
            }
        }
        return best;
    }

    public double meanLength() {
        double sum = 0;
        for (int v = 0; v < parts.size(); v++) {
            sum += length(v);
        }
        return parts.isEmpty() ? 0 : sum / parts.size();
    }

    public long digest() {
        List<Integer> numbers = new ArrayList<>(List.of(voices(), longest()));
        for (int v = 0; v < parts.size(); v++) {
            numbers.addAll(List.of(signs(v), notes(v), ligatures(v), length(v), clefOf(v), clefsThatFit(v),
                    bestClef(v), canonClashes(v, 4, 0), bestDelay(v, 4)));
            for (int s = 0; s < signs(v); s++) {
                numbers.addAll(List.of(kindOf(v, s), placeOf(v, s), placeInLigature(v, s), lengthOf(v, s),
                        beginOf(v, s)));
            }
        }
        long d = 2311;
        for (int x : numbers) {
            d = 31 * d + x;
        }
        return d;
    }
}
