/**
 * A works of music boxes: drums with five tracks, and combs of teeth that are tracks too.
 *
 * A track is a row of ints, and null where it lacks; drums and teeth share a track by having the
 * same row. LEVELS are held as their 32 bits, so that all kinds are read and played alike.
 */
public final class MusicBoxes {
    public static final int NONE = -1;
    public static final int LACKING = -2;
    public static final int BEYOND = -3;
    public static final int SIZE = -4;
    public static final int BOUND = -5;

    private static final int DRUMS = 8;
    private static final int COMBS = 4;

    private static final int KINDS = 5;
    private static final int PINS = 0;
    private static final int SIGNS = 1;
    private static final int LENGTHS = 2;
    private static final int LEVELS = 3;
    private static final int BENDS = 4;

    private static final int MOST_PLACES = 300;
    private static final int MOST_IN_COMB = 40;
    private static final int MOST_PLAYED = 20;

    private final Drum[] drums;
    private final Comb[] combs;
    private int refusal;

    public MusicBoxes() {
        drums = new Drum[DRUMS];
        for (int i = 0; i < DRUMS; i++) {
            drums[i] = new Drum();
        }
        combs = new Comb[COMBS];
        refusal = 0;
    }

    public int cut(int drum, int kind, int n) {
        Drum d = drumAt(drum);
        if (d == null || !isKind(kind)) {
            return refuse(NONE);
        }
        if (n < 0 || n > MOST_PLACES) {
            return refuse(SIZE);
        }
        d.tracks[kind] = new int[n];
        return done(n);
    }

    public int strip(int drum, int kind) {
        Drum d = drumAt(drum);
        if (d == null || !isKind(kind)) {
            return refuse(NONE);
        }
        int[] track = d.tracks[kind];
        if (track == null) {
            return refuse(LACKING);
        }
        d.tracks[kind] = null;
        return done(track.length);
    }

    public int share(int from, int to, int kind) {
        Drum giver = drumAt(from);
        Drum taker = drumAt(to);
        if (giver == null || taker == null || !isKind(kind)) {
            return refuse(NONE);
        }
        int[] track = giver.tracks[kind];
        if (track == null) {
            return refuse(LACKING);
        }
        taker.tracks[kind] = track;
        return done(track.length);
    }

    public int places(int drum, int kind) {
        Drum d = drumAt(drum);
        if (d == null || !isKind(kind)) {
            return refuse(NONE);
        }
        int[] track = d.tracks[kind];
        if (track == null) {
            return refuse(LACKING);
        }
        return done(track.length);
    }

    public int read(int drum, int kind, int k) {
        Drum d = drumAt(drum);
        if (d == null || !isKind(kind)) {
            refuse(NONE);
            return 0;
        }
        return lookAt(d.tracks[kind], k);
    }

    public int write(int drum, int kind, int k, int v) {
        Drum d = drumAt(drum);
        if (d == null || !isKind(kind)) {
            return refuse(NONE);
        }
        return putInto(d.tracks[kind], kind, k, v);
    }

    public int turn(int drum, int kind, int k, int v) {
        Drum d = drumAt(drum);
        if (d == null || !isKind(kind)) {
            return refuse(NONE);
        }
        return changeIn(d.tracks[kind], kind, k, v);
    }

    public int head(int drum, int k) {
        Drum d = drumAt(drum);
        if (d == null) {
            return refuse(NONE);
        }
        if (k < 0 || k > MOST_PLACES) {
            return refuse(SIZE);
        }
        int before = d.headAt;
        d.headAt = k;
        return done(before);
    }

    public int play(int drum, int n) {
        Drum d = drumAt(drum);
        if (d == null) {
            return refuse(NONE);
        }
        if (n < 0 || n > MOST_PLAYED) {
            return refuse(SIZE);
        }
        int before = d.notes;
        for (int i = 0; i < n && d.hasPlaceAtHead(); i++) {
            d.playOnePlace();
        }
        return done(d.notes - before);
    }

    public long heard(int drum, int what) {
        Drum d = drumAt(drum);
        if (d == null || what < 0 || what > 6) {
            refuse(NONE);
            return 0;
        }
        done(0);
        return d.told(what);
    }

    public int quiet(int drum) {
        Drum d = drumAt(drum);
        if (d == null) {
            return refuse(NONE);
        }
        int notes = d.notes;
        d.forget();
        return done(notes);
    }

    public int comb(int c, int kind, int teeth, int places) {
        if (c < 0 || c >= COMBS || !isKind(kind)) {
            return refuse(NONE);
        }
        if (teeth < 0 || teeth > MOST_IN_COMB || places < 0 || places > MOST_IN_COMB) {
            return refuse(SIZE);
        }
        combs[c] = new Comb(kind, new int[teeth][places]);
        return done(teeth);
    }

    public int drop(int c) {
        Comb found = combAt(c);
        if (found == null) {
            return refuse(NONE);
        }
        combs[c] = null;
        return done(found.teeth.length);
    }

    public int about(int c, int what) {
        Comb found = combAt(c);
        if (found == null || what < 0 || what > 3) {
            return refuse(NONE);
        }
        return done(found.told(what));
    }

    public int loosen(int c, int tooth) {
        Comb found = combAt(c);
        if (found == null || !found.hasTooth(tooth)) {
            return refuse(NONE);
        }
        int[] track = found.teeth[tooth];
        if (track == null) {
            return refuse(LACKING);
        }
        found.teeth[tooth] = null;
        return done(track.length);
    }

    public int hang(int c, int tooth, int drum) {
        Comb found = combAt(c);
        Drum d = drumAt(drum);
        if (found == null || !found.hasTooth(tooth) || d == null) {
            return refuse(NONE);
        }
        int[] track = d.tracks[found.kind];
        if (track == null) {
            return refuse(LACKING);
        }
        found.teeth[tooth] = track;
        return done(track.length);
    }

    public int fit(int c, int tooth, int drum) {
        Comb found = combAt(c);
        Drum d = drumAt(drum);
        if (found == null || !found.hasTooth(tooth) || d == null) {
            return refuse(NONE);
        }
        int[] track = found.teeth[tooth];
        if (track == null) {
            return refuse(LACKING);
        }
        d.tracks[found.kind] = track;
        return done(track.length);
    }

    public int cell(int c, int tooth, int k) {
        Comb found = combAt(c);
        if (found == null || !found.hasTooth(tooth)) {
            refuse(NONE);
            return 0;
        }
        return lookAt(found.teeth[tooth], k);
    }

    public int set(int c, int tooth, int k, int v) {
        Comb found = combAt(c);
        if (found == null || !found.hasTooth(tooth)) {
            return refuse(NONE);
        }
        return putInto(found.teeth[tooth], found.kind, k, v);
    }

    public int twist(int c, int tooth, int k, int v) {
        Comb found = combAt(c);
        if (found == null || !found.hasTooth(tooth)) {
            return refuse(NONE);
        }
        return changeIn(found.teeth[tooth], found.kind, k, v);
    }

    public int state() {
        return refusal;
    }

    private int refuse(int why) {
        refusal = why;
        return why;
    }

    private int done(int answer) {
        refusal = 0;
        return answer;
    }

    private Drum drumAt(int drum) {
        return drum < 0 || drum >= DRUMS ? null : drums[drum];
    }

    private Comb combAt(int c) {
        return c < 0 || c >= COMBS ? null : combs[c];
    }

    private static boolean isKind(int kind) {
        return kind >= 0 && kind < KINDS;
    }

    private static boolean hasPlace(int[] track, int k) {
        return track != null && k >= 0 && k < track.length;
    }

    private int refuseWithoutPlace(int[] track) {
        return refuse(track == null ? LACKING : BEYOND);
    }

    private int lookAt(int[] track, int k) {
        if (!hasPlace(track, k)) {
            refuseWithoutPlace(track);
            return 0;
        }
        return done(track[k]);
    }

    private int putInto(int[] track, int kind, int k, int v) {
        if (!hasPlace(track, k)) {
            return refuseWithoutPlace(track);
        }
        if (kind == LEVELS && !Level.mayBeEighths(v)) {
            return refuse(BOUND);
        }
        track[k] = written(kind, v);
        return done(0);
    }

    private int changeIn(int[] track, int kind, int k, int v) {
        if (!hasPlace(track, k)) {
            return refuseWithoutPlace(track);
        }
        if (kind == LEVELS && !Level.mayGetQuarters(track[k], v)) {
            return refuse(BOUND);
        }
        track[k] = turned(kind, track[k], v);
        return done(0);
    }

    private static int written(int kind, int v) {
        switch (kind) {
            case PINS:
                return v == 0 ? 0 : 1;
            case SIGNS:
                return v & 0xffff;
            case LENGTHS:
                return (short) v;
            case LEVELS:
                return Level.ofEighths(v);
            default:
                return (byte) v;
        }
    }

    private static int turned(int kind, int old, int v) {
        switch (kind) {
            case PINS:
                return old ^ (v & 1);
            case SIGNS:
                return (old + v) & 0xffff;
            case LENGTHS:
                return (short) (old * v);
            case LEVELS:
                return Level.timesQuarters(old, v);
            default:
                return (byte) (old - v);
        }
    }

    /** A drum: its tracks, its head, and what was heard of it. */
    private static final class Drum {
        // What there is at a gap, by kind; of LEVELS the bits of 1.
        private static final int[] AT_GAP = {1, 60, 1, 0x3f800000, 0};

        final int[][] tracks;
        int headAt;
        int notes;
        int played;
        int gaps;
        long weights;
        int highest;
        int greatest;

        Drum() {
            tracks = new int[KINDS][];
        }

        boolean hasPlaceAtHead() {
            for (int kind = 0; kind < KINDS; kind++) {
                if (hasPlace(tracks[kind], headAt)) {
                    return true;
                }
            }
            return false;
        }

        void playOnePlace() {
            int pin = ask(PINS);
            int sign = ask(SIGNS);
            int length = ask(LENGTHS);
            int level = ask(LEVELS);
            int bend = ask(BENDS);
            if (pin == 1) {
                hear(sign + bend, length, level);
            }
            played++;
            headAt++;
        }

        int ask(int kind) {
            int[] track = tracks[kind];
            if (!hasPlace(track, headAt)) {
                gaps++;
                return AT_GAP[kind];
            }
            return track[headAt];
        }

        void hear(int pitch, int length, int level) {
            // The first note counts even if its pitch or level is below the 0 of no note.
            if (notes == 0 || pitch > highest) {
                highest = pitch;
            }
            if (notes == 0 || Level.order(level) > Level.order(greatest)) {
                greatest = level;
            }
            // A single weight may already be too great for an int.
            weights += (long) pitch * length;
            notes++;
        }

        void forget() {
            notes = 0;
            played = 0;
            gaps = 0;
            weights = 0;
            highest = 0;
            greatest = 0;
        }

        long told(int what) {
            switch (what) {
                case 0:
                    return notes;
                case 1:
                    return played;
                case 2:
                    return gaps;
                case 3:
                    return weights;
                case 4:
                    return highest;
                case 5:
                    return greatest;
                default:
                    return headAt;
            }
        }
    }

    /** A comb: its kind, and its teeth, each a track or null. */
    private static final class Comb {
        final int kind;
        final int[][] teeth;

        Comb(int kind, int[][] teeth) {
            this.kind = kind;
            this.teeth = teeth;
        }

        boolean hasTooth(int tooth) {
            return tooth >= 0 && tooth < teeth.length;
        }

        int told(int what) {
            switch (what) {
                case 0:
                    return kind;
                case 1:
                    return teeth.length;
                case 2:
                    return countLacking();
                default:
                    return countPlaces();
            }
        }

        int countLacking() {
            int lacking = 0;
            for (int i = 0; i < teeth.length; i++) {
                if (teeth[i] == null) {
                    lacking++;
                }
            }
            return lacking;
        }

        int countPlaces() {
            int all = 0;
            for (int i = 0; i < teeth.length; i++) {
                int[] track = teeth[i];
                if (track != null) {
                    all += track.length;
                }
            }
            return all;
        }
    }

    /**
     * Levels as their 32 bits. LANGUAGE.md leaves no library function between a float and its
     * bits, so they are taken apart and put together here; and as only the size goes through the
     * float, the sign of a zero is never lost.
     */
    private static final class Level {
        private static final int MOST_EIGHTHS = 8000000;
        private static final int MOST_QUARTERS = 4000;
        private static final int MOST_SIZE = 1000000;

        private static final int SIGN_BIT = 0x80000000;
        private static final int SIZE_BITS = 0x7fffffff;
        private static final int FRACTION_BITS = 23;
        private static final int FRACTION = 0x7fffff;
        private static final int LEADING_ONE = 0x800000;
        // The least number above 0 is 1, halved so many times.
        private static final int HALVINGS = 149;

        static boolean mayBeEighths(int v) {
            return v >= -MOST_EIGHTHS && v <= MOST_EIGHTHS;
        }

        static int ofEighths(int v) {
            return withSignOf(v, (float) Math.abs(v) / 8.0f);
        }

        static boolean mayGetQuarters(int bits, int v) {
            return v >= -MOST_QUARTERS && v <= MOST_QUARTERS
                && sizeTimesQuarters(bits, v) <= (float) MOST_SIZE;
        }

        static int timesQuarters(int bits, int v) {
            return withSignOf(bits ^ v, sizeTimesQuarters(bits, v));
        }

        /** Orders bits as their numbers are ordered: both zeros are equal. */
        static int order(int bits) {
            return bits < 0 ? -(bits & SIZE_BITS) : bits;
        }

        private static float sizeTimesQuarters(int bits, int v) {
            return sizeOf(bits) * ((float) Math.abs(v) / 4.0f);
        }

        private static int withSignOf(int signed, float size) {
            return (signed & SIGN_BIT) | bitsOf(size);
        }

        /** The number without its sign. Every halving is exact, for so is where they end. */
        private static float sizeOf(int bits) {
            int doublings = (bits & SIZE_BITS) >>> FRACTION_BITS;
            int whole = bits & FRACTION;
            if (doublings > 0) {
                whole += LEADING_ONE;
                doublings--;
            }
            float size = (float) whole;
            for (int i = doublings; i < HALVINGS; i++) {
                size /= 2.0f;
            }
            return size;
        }

        /** The bits of a size of at most MOST_SIZE, which is below LEADING_ONE. */
        private static int bitsOf(float size) {
            float whole = size;
            int doublings = HALVINGS;
            while (doublings > 0 && whole < (float) LEADING_ONE) {
                whole *= 2.0f;
                doublings--;
            }
            // A leading one carries into the exponent, which is one more than the doublings.
            return (doublings << FRACTION_BITS) + (int) whole;
        }
    }
}
