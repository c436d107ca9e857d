import java.util.Arrays;

/**
 * Isles that drift off from whom they are cross with and are moored by ropes.
 * Every call answers by a number; what is refused answers BAD, STATE, FULL or NONE.
 */
public final class TemperIsles {
    public static final int BAD = -1, STATE = -2, FULL = -3, NONE = -4;

    private static final int MOST_ISLES = 5;
    private static final int MOST_ROPES = 6;
    private static final int MOST_SEEN = 6;
    private static final int LAST_FATHOM = 99;
    private static final int LONGEST_ROPE = 30;
    private static final int MOST_CROSS = 3;
    private static final int KINDS = 4;
    private static final int PLAIN = 0;
    private static final int PROUD = 1;
    private static final int FOND = 2;
    private static final int WIDOW = 3;
    private static final int WEEK = 7;
    private static final int TAPE_LENGTH = 160;

    private static final int DAYS_AT_ONCE = 30;
    private static final int DAYS_AHEAD = 60;
    private static final int DAYS_OF_ADVICE = 30;
    private static final int DAYS_SEEN = 20;
    private static final int DAYS_OF_STORMS = 8;
    private static final int DAYS_IN_ALL = 1000;

    private static final int ODDS = 10;
    private static final int WANTS_MEAN = -1;

    private static final int SHEETS = 4;
    private static final int LANES = 3;
    private static final int BYTES = 0;
    private static final int SHORTS = 1;
    private static final int MOST_CELLS = 40;
    private static final int MOST_READ = 13;
    private static final int NULL_FAULT = 1;
    private static final int INDEX_FAULT = 2;
    private static final int CAST_FAULT = 3;
    private static final int SIZE_FAULT = 4;

    private static final int TOKEN_FAULT = 1;
    private static final int ORDER_FAULT = 2;
    private static final int BOUNDS_FAULT = 3;
    private static final int AGAIN_FAULT = 4;
    private static final int MANY_FAULT = 5;
    private static final int MISSING_FAULT = 6;

    private final Firth now = new Firth();
    /** Where all that only would be is tried; it is laid anew ahead of each trial. */
    private final Firth trial = new Firth();
    private final Sightings seen = new Sightings();
    private final Image[] images = new Image[] {new Image(), new Image()};
    private final Sheet[] sheets = new Sheet[] {new Sheet(), new Sheet(), new Sheet(), new Sheet()};
    private final Scribe scribe = new Scribe();
    /** Where each isle is behind each day, by a row for each kind that is still possible. */
    private final int[] courses = new int[KINDS * (DAYS_SEEN + 1) * MOST_ISLES];
    /** Where the isles are ahead of each day of storms, so that a day can be taken back. */
    private final int[] stormPlaces = new int[DAYS_OF_STORMS * MOST_ISLES];
    private int tornFault = 0;

    public TemperIsles() {
    }

    // ---- the text

    public int feed(int c) {
        if (c < 0 || c > 127) {
            return BAD;
        }
        if (scribe.length >= TAPE_LENGTH) {
            return FULL;
        }
        scribe.tape[scribe.length] = (byte) c;
        scribe.length++;
        return scribe.length;
    }

    public int end(int n) {
        if (n < 0 || n > scribe.length) {
            return BAD;
        }
        int had = scribe.length;
        scribe.length = n;
        return had;
    }

    public int text() {
        boolean taken = scribe.takeText();
        scribe.length = 0;
        if (!taken) {
            return -10 - scribe.faultPlace;
        }
        now.become(scribe.draft);
        seen.number = 0;
        for (int k = 0; k < images.length; k++) {
            images[k].there = false;
        }
        return scribe.lines;
    }

    public int fault() {
        return scribe.faultFound;
    }

    public int rule(int what) {
        switch (what) {
            case 0:
                return now.isles;
            case 1:
                return now.ropes;
            case 2:
                return now.day;
            case 3:
                return now.holiday;
            case 4:
                return now.bumps;
            case 5:
                return now.spread();
            default:
                return BAD;
        }
    }

    public int isle(int i, int what) {
        if (!isIsle(i)) {
            return BAD;
        }
        switch (what) {
            case 0:
                return now.tempers[i];
            case 1:
                return now.places[i];
            case 2:
                return now.ropesOf(i);
            case 3:
                return Math.abs(now.driftOf(i));
            case 4:
                return now.driftOf(i) > 0 ? 1 : 0;
            case 5:
                return now.nearestTo(i);
            default:
                return BAD;
        }
    }

    public int cross(int i, int j) {
        return isPair(i, j) ? now.grudge(i, j) : BAD;
    }

    public int rope(int k, int what) {
        if (!isRope(k)) {
            return BAD;
        }
        switch (what) {
            case 0:
                return now.firstEnds[k];
            case 1:
                return now.secondEnds[k];
            case 2:
                return now.lengths[k];
            default:
                return BAD;
        }
    }

    public int far(int i, int j) {
        return isPair(i, j) ? Math.abs(now.places[i] - now.places[j]) : BAD;
    }

    // ---- what is changed

    public int alter(int i, int what, int v) {
        if (!isIsle(i)) {
            return BAD;
        }
        if (what == 0 && isWithin(v, 0, KINDS - 1)) {
            int was = now.tempers[i];
            now.tempers[i] = v;
            return was;
        }
        if (what == 1 && isWithin(v, 0, LAST_FATHOM) && !now.isTaken(v, i)) {
            int was = now.places[i];
            now.places[i] = v;
            return was;
        }
        return BAD;
    }

    public int sulk(int i, int j, int v) {
        if (!isGrudge(i, j, v)) {
            return BAD;
        }
        int was = now.grudge(i, j);
        now.setGrudge(i, j, v);
        return was;
    }

    public int haul(int k, int v) {
        if (!isRope(k) || !isWithin(v, 1, LONGEST_ROPE)) {
            return BAD;
        }
        int was = now.lengths[k];
        now.lengths[k] = v;
        return was;
    }

    public int wed(int i, int j, int length) {
        if (!isPair(i, j) || !isWithin(length, 1, LONGEST_ROPE)) {
            return BAD;
        }
        if (now.ropes >= MOST_ROPES) {
            return FULL;
        }
        now.addRope(i, j, length);
        return now.ropes;
    }

    public int loose(int n) {
        if (n < 0 || n > now.ropes) {
            return BAD;
        }
        int had = now.ropes;
        now.ropes = n;
        return had;
    }

    public int feast(int v) {
        if (!isWithin(v, 0, WEEK - 1)) {
            return BAD;
        }
        int was = now.holiday;
        now.holiday = v;
        return was;
    }

    // ---- days

    public int days(int n) {
        if (!isWithin(n, 0, DAYS_AT_ONCE)) {
            return BAD;
        }
        if (now.day + n >= DAYS_IN_ALL) {
            return FULL;
        }
        int had = now.bumps;
        now.passDays(n);
        return now.bumps - had;
    }

    public int runs(int n, int what) {
        if (!isWithin(n, 0, DAYS_AHEAD) || !isWithin(what, 0, 3)) {
            return BAD;
        }
        Firth then = asItIs();
        int least = then.spread();
        for (int d = 0; d < n; d++) {
            then.passDay();
            least = Math.min(least, then.spread());
        }
        switch (what) {
            case 0:
                return then.spread();
            case 1:
                return then.bumps - now.bumps;
            case 2:
                return least;
            default:
                return then.movedFrom(now);
        }
    }

    public int ahead(int i, int n) {
        if (!isIsle(i) || !isWithin(n, 0, DAYS_AHEAD)) {
            return BAD;
        }
        Firth then = asItIs();
        then.passDays(n);
        return then.places[i];
    }

    public int within(int v) {
        if (!isWithin(v, 0, LAST_FATHOM)) {
            return BAD;
        }
        Firth then = asItIs();
        for (int d = 0; d <= DAYS_AHEAD; d++) {
            if (then.spread() <= v) {
                return d;
            }
            then.passDay();
        }
        return NONE;
    }

    // ---- what is best

    public int match(int length, int what) {
        if (!isWithin(length, 1, LONGEST_ROPE) || !isWithin(what, 0, 1)) {
            return BAD;
        }
        if (now.ropes >= MOST_ROPES) {
            return FULL;
        }
        int least = asItIs().spreadBehind(DAYS_OF_ADVICE);
        int best = NONE;
        for (int i = 0; i < now.isles; i++) {
            for (int j = i + 1; j < now.isles; j++) {
                Firth then = asItIs();
                then.addRope(i, j, length);
                int spread = then.spreadBehind(DAYS_OF_ADVICE);
                if (spread < least) {
                    least = spread;
                    best = 10 * i + j;
                }
            }
        }
        return advice(best, least, what);
    }

    public int fray(int what) {
        if (!isWithin(what, 0, 1)) {
            return BAD;
        }
        int fewest = asItIs().bumpsIn(DAYS_OF_ADVICE);
        int best = NONE;
        for (int k = 0; k < now.ropes; k++) {
            Firth then = asItIs();
            then.dropRope(k);
            int bumps = then.bumpsIn(DAYS_OF_ADVICE);
            if (bumps < fewest) {
                fewest = bumps;
                best = k;
            }
        }
        return advice(best, fewest, what);
    }

    public int soothe(int what) {
        if (!isWithin(what, 0, 1)) {
            return BAD;
        }
        int least = asItIs().spreadBehind(DAYS_OF_ADVICE);
        int best = NONE;
        for (int i = 0; i < now.isles; i++) {
            for (int j = 0; j < now.isles; j++) {
                // Where there is no sulk, soothing leaves all as it is, which is never less.
                if (i == j || now.grudge(i, j) == 0) {
                    continue;
                }
                Firth then = asItIs();
                then.setGrudge(i, j, 0);
                int spread = then.spreadBehind(DAYS_OF_ADVICE);
                if (spread < least) {
                    least = spread;
                    best = 10 * i + j;
                }
            }
        }
        return advice(best, least, what);
    }

    public int holy(int n, int what) {
        if (!isWithin(n, 0, DAYS_AHEAD) || !isWithin(what, 0, 1)) {
            return BAD;
        }
        int least = LAST_FATHOM + 1;
        int best = NONE;
        for (int v = 0; v < WEEK; v++) {
            Firth then = asItIs();
            then.holiday = v;
            int spread = then.spreadBehind(n);
            if (spread < least) {
                least = spread;
                best = v;
            }
        }
        return advice(best, least, what);
    }

    public int kind(int i, int n, int what) {
        if (!isIsle(i) || !isWithin(n, 0, DAYS_AHEAD) || !isWithin(what, 0, 1)) {
            return BAD;
        }
        int least = LAST_FATHOM + 1;
        int best = NONE;
        for (int v = 0; v < KINDS; v++) {
            Firth then = asItIs();
            then.tempers[i] = v;
            int spread = then.spreadBehind(n);
            if (spread < least) {
                least = spread;
                best = v;
            }
        }
        return advice(best, least, what);
    }

    public int slack(int k, int n, int v) {
        if (!isRope(k) || !isWithin(n, 0, DAYS_AHEAD) || !isWithin(v, 0, LAST_FATHOM)) {
            return BAD;
        }
        for (int length = LONGEST_ROPE; length >= 1; length--) {
            Firth then = asItIs();
            then.lengths[k] = length;
            if (then.spreadBehind(n) <= v) {
                return length;
            }
        }
        return NONE;
    }

    // ---- storms

    public long luck(int v, int n, int w, int what) {
        if (!isStorms(v, n, what) || !isWithin(w, 0, LAST_FATHOM)) {
            return BAD;
        }
        return fractionPart(stormSum(asItIs(), stormPlaces, n, v, w), n, what);
    }

    public long mean(int v, int n, int what) {
        if (!isStorms(v, n, what)) {
            return BAD;
        }
        return fractionPart(stormSum(asItIs(), stormPlaces, n, v, WANTS_MEAN), n, what);
    }

    // ---- from where who was when

    public int see(int n, int i, int v) {
        if (!isWithin(n, 0, DAYS_SEEN) || !isIsle(i) || !isWithin(v, 0, LAST_FATHOM)) {
            return BAD;
        }
        if (seen.number >= MOST_SEEN) {
            return FULL;
        }
        seen.add(n, i, v);
        return seen.number;
    }

    public int forget(int n) {
        if (n < 0 || n > seen.number) {
            return BAD;
        }
        int had = seen.number;
        seen.number = n;
        return had;
    }

    public int kinds(int i) {
        return isIsle(i) ? kindsAsSeen(i) : BAD;
    }

    public int sulks(int i, int j) {
        if (!isPair(i, j)) {
            return BAD;
        }
        int bits = 0;
        for (int v = 0; v <= MOST_CROSS; v++) {
            Firth then = asItIs();
            then.setGrudge(i, j, v);
            if (seen.agreeWith(then)) {
                bits |= 1 << v;
            }
        }
        return bits;
    }

    public int ask(int i, int what) {
        if (!isIsle(i) || !isWithin(what, 0, 1)) {
            return BAD;
        }
        int rows = layCourses(i, kindsAsSeen(i));
        int fewest = rows;
        int best = NONE;
        for (int n = 0; n <= DAYS_SEEN; n++) {
            for (int j = 0; j < now.isles; j++) {
                int left = mostLeft(rows, n * MOST_ISLES + j);
                if (left < fewest) {
                    fewest = left;
                    best = 10 * n + j;
                }
            }
        }
        return advice(best, fewest, what);
    }

    // ---- by a seed

    public int drift(int seed, int n, int what) {
        if (!isWithin(n, 1, DAYS_AHEAD) || !isWithin(what, 0, 1)) {
            return BAD;
        }
        if (now.isles < 1) {
            return STATE;
        }
        Firth then = asItIs();
        int s = seed;
        for (int d = 0; d < n; d++) {
            s = s * 1103515245 + 12345;
            int got = s >>> 16 & 0x7fff;
            int who = got % now.isles;
            int whom = got / 8 % now.isles;
            if (who != whom) {
                then.setGrudge(who, whom, got / 64 % 4);
            }
            then.passDay();
        }
        return what == 0 ? then.spread() : then.bumps - now.bumps;
    }

    // ---- images, sheets

    public int keep(int k) {
        if (!isWithin(k, 0, images.length - 1)) {
            return BAD;
        }
        int was = images[k].there ? 1 : 0;
        images[k].there = true;
        images[k].firth.become(now);
        images[k].seen.become(seen);
        return was;
    }

    public int back(int k) {
        if (!isWithin(k, 0, images.length - 1)) {
            return BAD;
        }
        if (!images[k].there) {
            return STATE;
        }
        now.become(images[k].firth);
        seen.become(images[k].seen);
        return now.day;
    }

    public int sheet(int k, int lane, int n) {
        if (!isWithin(k, 0, SHEETS - 1) || !isWithin(lane, 0, LANES - 1) || n > MOST_CELLS) {
            return BAD;
        }
        if (n < 0) {
            return -10 - SIZE_FAULT;
        }
        sheets[k].renew(lane, n);
        return 1;
    }

    public int lay(int k, int i, int v) {
        if (!isWithin(k, 0, SHEETS - 1)) {
            return BAD;
        }
        Sheet row = sheets[k];
        int found = row.faultAt(row.lane, i);
        if (found != 0) {
            return -10 - found;
        }
        row.put(i, v);
        return 1;
    }

    public int read(int k, int lane, int f, int n) {
        if (!isWithin(k, 0, SHEETS - 1) || !isWithin(lane, 0, LANES - 1) || !isWithin(n, 0, MOST_READ)) {
            return BAD;
        }
        Sheet row = sheets[k];
        int whole = 0;
        int found = 0;
        for (int t = 0; t < n && found == 0; t++) {
            int cell = f + 3 * t;
            found = row.faultInThree(lane, cell);
            if (found == 0) {
                if (!isGrudge(row.cells[cell], row.cells[cell + 1], row.cells[cell + 2])) {
                    return -20 - t;
                }
                whole++;
            }
        }
        // All are looked at ahead of the first that is told, since one that is refused lets none come.
        for (int t = 0; t < whole; t++) {
            int cell = f + 3 * t;
            now.setGrudge(row.cells[cell], row.cells[cell + 1], row.cells[cell + 2]);
        }
        tornFault = found;
        return whole;
    }

    public int torn() {
        return tornFault;
    }

    public int count(int what) {
        switch (what) {
            case 0:
                return seen.number;
            case 1:
                return (images[0].there ? 1 : 0) + (images[1].there ? 1 : 0);
            case 2:
                return scribe.length;
            case 3:
                return sheets[0].lane == NONE ? NONE : sheets[0].size;
            case 4:
                return now.lengthOfAll();
            case 5:
                return now.grudgeOfAll();
            default:
                return BAD;
        }
    }

    // ---- what may be asked

    private static boolean isWithin(int v, int least, int most) {
        return v >= least && v <= most;
    }

    private boolean isIsle(int i) {
        return i >= 0 && i < now.isles;
    }

    private boolean isRope(int k) {
        return k >= 0 && k < now.ropes;
    }

    private boolean isPair(int i, int j) {
        return isIsle(i) && isIsle(j) && i != j;
    }

    private boolean isGrudge(int i, int j, int v) {
        return isPair(i, j) && isWithin(v, 0, MOST_CROSS);
    }

    private static boolean isStorms(int v, int n, int what) {
        return isWithin(v, 0, ODDS) && isWithin(n, 0, DAYS_OF_STORMS) && isWithin(what, 0, 1);
    }

    // ---- what would be

    private Firth asItIs() {
        trial.become(now);
        return trial;
    }

    private static int advice(int best, int worth, int what) {
        if (best == NONE) {
            return NONE;
        }
        return what == 0 ? best : worth;
    }

    private int kindsAsSeen(int i) {
        int bits = 0;
        for (int v = 0; v < KINDS; v++) {
            Firth then = asItIs();
            then.tempers[i] = v;
            if (seen.agreeWith(then)) {
                bits |= 1 << v;
            }
        }
        return bits;
    }

    /** Lays down a course for each kind (bits) that an isle may still be of; tells how many these are. */
    private int layCourses(int i, int bits) {
        int rows = 0;
        for (int v = 0; v < KINDS; v++) {
            if ((bits >> v & 1) == 0) {
                continue;
            }
            Firth then = asItIs();
            then.tempers[i] = v;
            for (int n = 0; n <= DAYS_SEEN; n++) {
                int from = (rows * (DAYS_SEEN + 1) + n) * MOST_ISLES;
                System.arraycopy(then.places, 0, courses, from, MOST_ISLES);
                then.passDay();
            }
            rows++;
        }
        return rows;
    }

    /** How many courses at most are alike at one spot (a day and an isle): what is left at the worst. */
    private int mostLeft(int rows, int spot) {
        int row = (DAYS_SEEN + 1) * MOST_ISLES;
        int most = 0;
        for (int a = 0; a < rows; a++) {
            int alike = 0;
            for (int b = 0; b < rows; b++) {
                if (courses[a * row + spot] == courses[b * row + spot]) {
                    alike++;
                }
            }
            most = Math.max(most, alike);
        }
        return most;
    }

    /**
     * Summed over all ways in which the days left may go, each as often out of 10 to the power of these:
     * SPREAD in the end, or whether it is w or less. The firth is left as it was, but for its bumps.
     */
    private static long stormSum(Firth firth, int[] kept, int left, int v, int w) {
        if (left <= 0 || left > DAYS_OF_STORMS) {
            int spread = firth.spread();
            if (w == WANTS_MEAN) {
                return spread;
            }
            return spread <= w ? 1 : 0;
        }
        long sum = 0;
        if (v > 0) {
            firth.day++;
            sum += v * stormSum(firth, kept, left - 1, v, w);
            firth.day--;
        }
        if (v < ODDS) {
            int from = (left - 1) * MOST_ISLES;
            System.arraycopy(firth.places, 0, kept, from, MOST_ISLES);
            firth.passDay();
            sum += (ODDS - v) * stormSum(firth, kept, left - 1, v, w);
            firth.day--;
            System.arraycopy(kept, from, firth.places, 0, MOST_ISLES);
        }
        return sum;
    }

    /** A part, in lowest terms, of a sum by 10 to the power of n. */
    private static long fractionPart(long sum, int n, int what) {
        long whole = 1;
        for (int d = 0; d < n; d++) {
            whole *= ODDS;
        }
        long common = commonDivisor(sum, whole);
        return (what == 0 ? sum : whole) / common;
    }

    private static long commonDivisor(long a, long b) {
        long x = a;
        long y = b;
        for (int step = 0; step < 200 && y != 0; step++) {
            long rest = x % y;
            x = y;
            y = rest;
        }
        return Math.max(1, x);
    }

    /** All isles and ropes with the day that it is: how it is, or how it would be. */
    private static final class Firth {
        int isles = 0;
        final int[] tempers = new int[MOST_ISLES];
        final int[] places = new int[MOST_ISLES];
        final int[] grudges = new int[MOST_ISLES * MOST_ISLES];
        int ropes = 0;
        final int[] firstEnds = new int[MOST_ROPES];
        final int[] secondEnds = new int[MOST_ROPES];
        final int[] lengths = new int[MOST_ROPES];
        int holiday = 0;
        int day = 0;
        int bumps = 0;

        void clear() {
            isles = 0;
            Arrays.fill(grudges, 0);
            ropes = 0;
            holiday = 0;
            day = 0;
            bumps = 0;
        }

        void become(Firth other) {
            isles = other.isles;
            System.arraycopy(other.tempers, 0, tempers, 0, MOST_ISLES);
            System.arraycopy(other.places, 0, places, 0, MOST_ISLES);
            System.arraycopy(other.grudges, 0, grudges, 0, MOST_ISLES * MOST_ISLES);
            ropes = other.ropes;
            System.arraycopy(other.firstEnds, 0, firstEnds, 0, MOST_ROPES);
            System.arraycopy(other.secondEnds, 0, secondEnds, 0, MOST_ROPES);
            System.arraycopy(other.lengths, 0, lengths, 0, MOST_ROPES);
            holiday = other.holiday;
            day = other.day;
            bumps = other.bumps;
        }

        void addIsle(int temper, int place) {
            if (isles < MOST_ISLES) {
                tempers[isles] = temper;
                places[isles] = place;
                isles++;
            }
        }

        void addRope(int i, int j, int length) {
            if (ropes < MOST_ROPES) {
                firstEnds[ropes] = i;
                secondEnds[ropes] = j;
                lengths[ropes] = length;
                ropes++;
            }
        }

        void dropRope(int gone) {
            for (int k = gone; k + 1 < ropes; k++) {
                firstEnds[k] = firstEnds[k + 1];
                secondEnds[k] = secondEnds[k + 1];
                lengths[k] = lengths[k + 1];
            }
            ropes--;
        }

        int grudge(int i, int j) {
            return grudges[i * MOST_ISLES + j];
        }

        void setGrudge(int i, int j, int v) {
            grudges[i * MOST_ISLES + j] = v;
        }

        int ropesOf(int i) {
            int had = 0;
            for (int k = 0; k < ropes; k++) {
                if (firstEnds[k] == i || secondEnds[k] == i) {
                    had++;
                }
            }
            return had;
        }

        int lengthOfAll() {
            int sum = 0;
            for (int k = 0; k < ropes; k++) {
                sum += lengths[k];
            }
            return sum;
        }

        int grudgeOfAll() {
            int sum = 0;
            for (int i = 0; i < isles; i++) {
                for (int j = 0; j < isles; j++) {
                    sum += i == j ? 0 : grudge(i, j);
                }
            }
            return sum;
        }

        int spread() {
            if (isles < 2) {
                return 0;
            }
            int least = places[0];
            int most = places[0];
            for (int i = 1; i < isles; i++) {
                least = Math.min(least, places[i]);
                most = Math.max(most, places[i]);
            }
            return most - least;
        }

        int movedFrom(Firth other) {
            int moved = 0;
            for (int i = 0; i < isles; i++) {
                if (places[i] != other.places[i]) {
                    moved++;
                }
            }
            return moved;
        }

        boolean isTaken(int place, int butBy) {
            for (int i = 0; i < isles; i++) {
                if (i != butBy && places[i] == place) {
                    return true;
                }
            }
            return false;
        }

        int nearestTo(int i) {
            int nearest = NONE;
            int least = LAST_FATHOM + 1;
            for (int j = 0; j < isles; j++) {
                int apart = Math.abs(places[i] - places[j]);
                if (j != i && apart < least) {
                    least = apart;
                    nearest = j;
                }
            }
            return nearest;
        }

        /** Above 0 towards greater fathoms, below 0 towards lesser ones. */
        int driftOf(int i) {
            int plain = 0;
            for (int j = 0; j < isles; j++) {
                if (j != i) {
                    int grudge = grudges[i * MOST_ISLES + j];
                    plain += places[i] > places[j] ? grudge : -grudge;
                }
            }
            switch (tempers[i]) {
                case PROUD:
                    return 2 * plain;
                case FOND:
                    return plain / 2;
                case WIDOW:
                    return 2 * plain - Integer.signum(plain);
                default:
                    return plain;
            }
        }

        boolean isHeld(int i, int place) {
            for (int k = 0; k < ropes; k++) {
                if (firstEnds[k] == i || secondEnds[k] == i) {
                    int other = places[firstEnds[k] == i ? secondEnds[k] : firstEnds[k]];
                    int then = Math.abs(place - other);
                    if (then > lengths[k] && then > Math.abs(places[i] - other)) {
                        return true;
                    }
                }
            }
            return false;
        }

        void passDay() {
            boolean festive = day % WEEK == holiday;
            for (int i = 0; i < isles; i++) {
                if (festive) {
                    comeIn(i);
                } else {
                    driftOff(i);
                }
            }
            day++;
        }

        void passDays(int n) {
            for (int d = 0; d < n; d++) {
                passDay();
            }
        }

        int spreadBehind(int n) {
            passDays(n);
            return spread();
        }

        int bumpsIn(int n) {
            int had = bumps;
            passDays(n);
            return bumps - had;
        }

        private void comeIn(int i) {
            int nearest = nearestTo(i);
            if (nearest < 0) {
                return;
            }
            int apart = places[nearest] - places[i];
            int next = places[i] + Integer.signum(apart);
            if (Math.abs(apart) > 1 && !isHeld(i, next)) {
                places[i] = next;
            }
        }

        private void driftOff(int i) {
            int drift = driftOf(i);
            int way = Integer.signum(drift);
            for (int step = Math.abs(drift); step > 0; step--) {
                int next = places[i] + way;
                // A rope holds an isle ahead of a bump: where both fit, there is none.
                if (next < 0 || next > LAST_FATHOM || isHeld(i, next)) {
                    return;
                }
                if (isTaken(next, i)) {
                    bumps++;
                    return;
                }
                places[i] = next;
            }
        }
    }

    /** Where who was behind how many days. */
    private static final class Sightings {
        int number = 0;
        private final int[] behind = new int[MOST_SEEN];
        private final int[] whom = new int[MOST_SEEN];
        private final int[] where = new int[MOST_SEEN];

        void become(Sightings other) {
            number = other.number;
            System.arraycopy(other.behind, 0, behind, 0, MOST_SEEN);
            System.arraycopy(other.whom, 0, whom, 0, MOST_SEEN);
            System.arraycopy(other.where, 0, where, 0, MOST_SEEN);
        }

        void add(int n, int i, int v) {
            if (number < MOST_SEEN) {
                behind[number] = n;
                whom[number] = i;
                where[number] = v;
                number++;
            }
        }

        /** Runs a firth on as far as anything was seen in it. */
        boolean agreeWith(Firth firth) {
            int last = 0;
            for (int s = 0; s < number; s++) {
                last = Math.max(last, behind[s]);
            }
            for (int n = 0; n <= last; n++) {
                if (n > 0) {
                    firth.passDay();
                }
                if (!agreeBehind(n, firth)) {
                    return false;
                }
            }
            return true;
        }

        private boolean agreeBehind(int n, Firth firth) {
            for (int s = 0; s < number; s++) {
                if (behind[s] == n && firth.places[whom[s]] != where[s]) {
                    return false;
                }
            }
            return true;
        }
    }

    private static final class Image {
        boolean there = false;
        final Firth firth = new Firth();
        final Sightings seen = new Sightings();
    }

    /** A row of cells of a lane; the lane is NONE while there is nothing. */
    private static final class Sheet {
        int lane = NONE;
        int size = 0;
        final int[] cells = new int[MOST_CELLS];

        void renew(int newLane, int n) {
            lane = newLane;
            size = n;
            Arrays.fill(cells, 0);
        }

        int faultAt(int asLane, int i) {
            if (lane == NONE) {
                return NULL_FAULT;
            }
            if (lane != asLane) {
                return CAST_FAULT;
            }
            return i < 0 || i >= size ? INDEX_FAULT : 0;
        }

        int faultInThree(int asLane, int from) {
            int found = 0;
            for (int c = 0; c < 3 && found == 0; c++) {
                found = faultAt(asLane, from + c);
            }
            return found;
        }

        void put(int i, int v) {
            if (lane == BYTES) {
                cells[i] = (byte) v;
            } else if (lane == SHORTS) {
                cells[i] = (short) v;
            } else {
                cells[i] = v;
            }
        }
    }

    /** Holds the tape and reads it, token by token, into a draft. */
    private static final class Scribe {
        private static final int END = 0;
        private static final int NAME = 1;
        private static final int NUMBER = 2;
        private static final int STOP = 3;
        /** The lines that tell no isle; those that do are known by its kind. */
        private static final int CROSS = 10;
        private static final int ROPE = 11;
        private static final int FEAST = 12;

        final byte[] tape = new byte[TAPE_LENGTH];
        int length = 0;
        final Firth draft = new Firth();
        int lines = 0;
        int faultFound = 0;
        int faultPlace = 0;
        private final boolean[] grudgeTold = new boolean[MOST_ISLES * MOST_ISLES];
        private boolean feastTold = false;
        private int highestIsle = -1;
        /** The place behind the latest token, and that token: what it is, its first place, its value. */
        private int next = 0;
        private int token = END;
        private int from = 0;
        private int value = 0;
        /** The two isles of the line that is being taken. */
        private int one = 0;
        private int other = 0;

        boolean takeText() {
            startOver();
            // Each line has a byte at least, so that the end is met within this bound.
            for (int line = 0; line <= TAPE_LENGTH; line++) {
                if (!takeToken()) {
                    return false;
                }
                if (token == END) {
                    return highestIsle < draft.isles || fail(MISSING_FAULT);
                }
                if (!takeLine(token == NAME ? lineNamed() : NONE)) {
                    return false;
                }
                lines++;
            }
            return fail(ORDER_FAULT);
        }

        private void startOver() {
            draft.clear();
            lines = 0;
            faultFound = 0;
            faultPlace = 0;
            for (int g = 0; g < grudgeTold.length; g++) {
                grudgeTold[g] = false;
            }
            feastTold = false;
            highestIsle = -1;
            next = 0;
        }

        /** Every fault is told at the first place of the latest token; the end's is the length. */
        private boolean fail(int kindOfFault) {
            faultFound = kindOfFault;
            faultPlace = from;
            return false;
        }

        private int lineNamed() {
            if (isNamed("plain")) {
                return PLAIN;
            }
            if (isNamed("proud")) {
                return PROUD;
            }
            if (isNamed("fond")) {
                return FOND;
            }
            if (isNamed("widow")) {
                return WIDOW;
            }
            if (isNamed("cross")) {
                return CROSS;
            }
            if (isNamed("rope")) {
                return ROPE;
            }
            return isNamed("feast") ? FEAST : NONE;
        }

        private boolean isNamed(String name) {
            if (next - from != name.length()) {
                return false;
            }
            for (int c = 0; c < name.length(); c++) {
                if (tape[from + c] != name.charAt(c)) {
                    return false;
                }
            }
            return true;
        }

        private boolean takeLine(int line) {
            switch (line) {
                case NONE:
                    return fail(ORDER_FAULT);
                case CROSS:
                    return takePair() && takeGrudge();
                case ROPE:
                    return draft.ropes < MOST_ROPES ? takePair() && takeRope() : fail(MANY_FAULT);
                case FEAST:
                    return feastTold ? fail(AGAIN_FAULT) : takeFeast();
                default:
                    return draft.isles < MOST_ISLES ? takeIsle(line) : fail(MANY_FAULT);
            }
        }

        private boolean takeIsle(int temper) {
            if (!takeNumber(0, LAST_FATHOM)) {
                return false;
            }
            if (draft.isTaken(value, NONE)) {
                return fail(AGAIN_FAULT);
            }
            draft.addIsle(temper, value);
            return takeStop();
        }

        private boolean takePair() {
            if (!takeNumber(0, MOST_ISLES - 1)) {
                return false;
            }
            one = value;
            if (!takeNumber(0, MOST_ISLES - 1)) {
                return false;
            }
            other = value;
            highestIsle = Math.max(highestIsle, Math.max(one, other));
            return one != other || fail(BOUNDS_FAULT);
        }

        private boolean takeGrudge() {
            if (grudgeTold[one * MOST_ISLES + other]) {
                return fail(AGAIN_FAULT);
            }
            if (!takeNumber(0, MOST_CROSS)) {
                return false;
            }
            // A sulk of 0 is told too, so that the draft's own number can't show it.
            grudgeTold[one * MOST_ISLES + other] = true;
            draft.setGrudge(one, other, value);
            return takeStop();
        }

        private boolean takeRope() {
            if (!takeNumber(1, LONGEST_ROPE)) {
                return false;
            }
            draft.addRope(one, other, value);
            return takeStop();
        }

        private boolean takeFeast() {
            if (!takeNumber(0, WEEK - 1)) {
                return false;
            }
            feastTold = true;
            draft.holiday = value;
            return takeStop();
        }

        private boolean takeNumber(int least, int most) {
            if (!takeToken()) {
                return false;
            }
            if (token != NUMBER) {
                return fail(ORDER_FAULT);
            }
            return isWithin(value, least, most) || fail(BOUNDS_FAULT);
        }

        private boolean takeStop() {
            return takeToken() && (token == STOP || fail(ORDER_FAULT));
        }

        private boolean takeToken() {
            pass(' ', ' ');
            from = next;
            if (next >= length) {
                token = END;
                return true;
            }
            if (tape[next] == ';') {
                next++;
                token = STOP;
                return true;
            }
            if (pass('a', 'z') > 0) {
                token = NAME;
                return true;
            }
            int figures = pass('0', '9');
            if (figures < 1 || figures > 2) {
                return fail(TOKEN_FAULT);
            }
            token = NUMBER;
            value = tape[next - 1] - '0' + (figures == 2 ? 10 * (tape[from] - '0') : 0);
            return true;
        }

        /** Goes past all bytes from one to another; tells how many these were. */
        private int pass(char least, char most) {
            int start = next;
            while (next < length && tape[next] >= least && tape[next] <= most) {
                next++;
            }
            return next - start;
        }
    }
}
