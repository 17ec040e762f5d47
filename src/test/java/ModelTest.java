import java.util.Arrays;
import java.util.Random;

/**
 * Long runs of calls, each answered by the class and by a model that is written another way: its
 * tracks are Java's own booleans, chars, shorts, floats and bytes. The runs are always the same.
 */
public final class ModelTest {
    private static final int RUNS = 4000;
    private static final int CALLS = 512;
    private static final int[] MOSTS = {2, 3, 3, 4, 5, 5, 8, 60};
    private static final int[] WILD = {Integer.MIN_VALUE, Integer.MAX_VALUE, -1, 65536, 32768, -32769, 8000001,
        -8000001, 8000000, -8000000, 4001, -4001, 4000, -4000, 301, 300, 41, 40, 21, 20};
    private static final Due due = new Due();

    public static void main(String[] args) {
        for (int run = 0; run < RUNS; run++) {
            Random random = new Random(run);
            MusicBoxes x = new MusicBoxes();
            Model model = new Model();
            for (int call = 0; call < CALLS / 2; call++) {
                int[] a = arguments(random);
                int which = random.nextInt(20);
                String told = "run " + run + " call " + call + ": " + which + Arrays.toString(a);
                due.is(told, asked(x, which, a), model.asked(which, a));
                due.is(told + " state()", x.state(), model.state);
            }
        }
        due.end();
    }

    /** Mostly numbers that name things that there are, so that runs get somewhere. */
    private static int[] arguments(Random random) {
        int[] a = new int[4];
        int most = MOSTS[random.nextInt(MOSTS.length)];
        for (int i = 0; i < 4; i++) {
            a[i] = random.nextInt(most);
        }
        int last = random.nextInt(40);
        if (last < 4) {
            a[last] = WILD[random.nextInt(WILD.length)];
        } else if (last < 10) {
            a[3] = random.nextInt(16000001) - 8000000;
        } else if (last < 20) {
            a[3] = random.nextInt(81) - 40;
        }
        return a;
    }

    private static long asked(MusicBoxes x, int which, int[] a) {
        return switch (which) {
            case 0 -> x.cut(a[0], a[1], a[2]);
            case 1 -> x.strip(a[0], a[1]);
            case 2 -> x.share(a[0], a[1], a[2]);
            case 3 -> x.places(a[0], a[1]);
            case 4 -> x.read(a[0], a[1], a[2]);
            case 5 -> x.write(a[0], a[1], a[2], a[3]);
            case 6 -> x.turn(a[0], a[1], a[2], a[3]);
            case 7 -> x.head(a[0], a[1]);
            case 8 -> x.play(a[0], a[1]);
            case 9 -> x.heard(a[0], a[1]);
            case 10 -> x.quiet(a[0]);
            case 11 -> x.comb(a[0], a[1], a[2], a[3]);
            case 12 -> x.drop(a[0]);
            case 13 -> x.about(a[0], a[1]);
            case 14 -> x.loosen(a[0], a[1]);
            case 15 -> x.hang(a[0], a[1], a[2]);
            case 16 -> x.fit(a[0], a[1], a[2]);
            case 17 -> x.cell(a[0], a[1], a[2]);
            case 18 -> x.set(a[0], a[1], a[2], a[3]);
            default -> x.twist(a[0], a[1], a[2], a[3]);
        };
    }

    private static final class Refused extends RuntimeException {
        private static final long serialVersionUID = 1;
        final int why;

        Refused(int why) {
            this.why = why;
        }
    }

    private static final class Model {
        final Object[][] tracks = new Object[8][5];
        final int[] heads = new int[8];
        final long[][] heard = new long[8][5];
        final float[] greatest = new float[8];
        final Object[][] teeth = new Object[4][];
        final int[] kinds = new int[4];
        int state;

        long asked(int which, int[] a) {
            state = 0;
            try {
                return which < 11 ? drums(which, a) : combs(which, a);
            } catch (Refused refused) {
                state = refused.why;
                return which == 4 || which == 9 || which == 17 ? 0 : state;
            }
        }

        static void want(boolean holds, int why) {
            if (!holds) {
                throw new Refused(why);
            }
        }

        static boolean in(int v, int from, int to) {
            return from <= v && v <= to;
        }

        long drums(int which, int[] a) {
            want(in(a[0], 0, 7), -1);
            Object[] mine = tracks[a[0]];
            if (which >= 7) {
                return playing(which, a[0], a[1]);
            }
            if (which == 2) {
                want(in(a[1], 0, 7) && in(a[2], 0, 4), -1);
                want(mine[a[2]] != null, -2);
                tracks[a[1]][a[2]] = mine[a[2]];
                return size(mine[a[2]]);
            }
            want(in(a[1], 0, 4), -1);
            if (which == 0) {
                want(in(a[2], 0, 300), -4);
                mine[a[1]] = track(a[1], a[2]);
                return a[2];
            }
            Object track = mine[a[1]];
            want(track != null, -2);
            if (which == 1) {
                mine[a[1]] = null;
            }
            return which <= 3 ? size(track) : inTrack(which - 4, track, a[2], a[3]);
        }

        long combs(int which, int[] a) {
            want(in(a[0], 0, 3), -1);
            if (which == 11) {
                want(in(a[1], 0, 4), -1);
                want(in(a[2], 0, 40) && in(a[3], 0, 40), -4);
                kinds[a[0]] = a[1];
                teeth[a[0]] = new Object[a[2]];
                for (int i = 0; i < a[2]; i++) {
                    teeth[a[0]][i] = track(a[1], a[3]);
                }
                return a[2];
            }
            Object[] mine = teeth[a[0]];
            want(mine != null, -1);
            if (which == 12) {
                teeth[a[0]] = null;
                return mine.length;
            }
            if (which == 13) {
                want(in(a[1], 0, 3), -1);
                long lacking = Arrays.stream(mine).filter(t -> t == null).count();
                long places = Arrays.stream(mine).filter(t -> t != null).mapToInt(Model::size).sum();
                return new long[] {kinds[a[0]], mine.length, lacking, places}[a[1]];
            }
            want(in(a[1], 0, mine.length - 1), -1);
            return which >= 17 ? inTooth(which - 17, mine[a[1]], a) : moved(which, mine, a);
        }

        long moved(int which, Object[] mine, int[] a) {
            int tooth = a[1];
            want(which == 14 || in(a[2], 0, 7), -1);
            int kind = kinds[a[0]];
            Object track = which == 15 ? tracks[a[2]][kind] : mine[tooth];
            want(track != null, -2);
            if (which == 16) {
                tracks[a[2]][kind] = track;
            } else {
                mine[tooth] = which == 14 ? null : track;
            }
            return size(track);
        }

        static long inTooth(int what, Object track, int[] a) {
            want(track != null, -2);
            return inTrack(what, track, a[2], a[3]);
        }

        static Object track(int kind, int n) {
            return switch (kind) {
                case 0 -> new boolean[n];
                case 1 -> new char[n];
                case 2 -> new short[n];
                case 3 -> new float[n];
                default -> new byte[n];
            };
        }

        static int size(Object track) {
            return java.lang.reflect.Array.getLength(track);
        }

        static long inTrack(int what, Object track, int k, int v) {
            want(in(k, 0, size(track) - 1), -3);
            if (track instanceof boolean[] pins) {
                pins[k] = what == 0 ? pins[k] : what == 1 ? v != 0 : pins[k] ^ v % 2 != 0;
                return what == 0 && pins[k] ? 1 : 0;
            }
            if (track instanceof char[] signs) {
                signs[k] = what == 0 ? signs[k] : what == 1 ? (char) v : (char) (signs[k] + v);
                return what == 0 ? signs[k] : 0;
            }
            if (track instanceof short[] lengths) {
                lengths[k] = what == 0 ? lengths[k] : what == 1 ? (short) v : (short) (lengths[k] * v);
                return what == 0 ? lengths[k] : 0;
            }
            if (track instanceof byte[] bends) {
                bends[k] = what == 0 ? bends[k] : what == 1 ? (byte) v : (byte) (bends[k] - v);
                return what == 0 ? bends[k] : 0;
            }
            float[] levels = (float[]) track;
            if (what == 0) {
                return Float.floatToRawIntBits(levels[k]);
            }
            int most = what == 1 ? 8000000 : 4000;
            want(in(v, -most, most), -5);
            float next = what == 1 ? (float) v / 8f : levels[k] * ((float) v / 4f);
            want(next >= -1000000f && next <= 1000000f, -5);
            levels[k] = next;
            return 0;
        }

        long playing(int which, int drum, int n) {
            int before = heads[drum];
            long[] h = heard[drum];
            if (which == 7) {
                want(in(n, 0, 300), -4);
                heads[drum] = n;
                return before;
            }
            if (which == 9) {
                want(in(n, 0, 6), -1);
                return n == 6 ? heads[drum] : n == 5 ? Float.floatToRawIntBits(greatest[drum]) : h[n];
            }
            long notes = h[0];
            if (which == 10) {
                Arrays.fill(h, 0);
                greatest[drum] = 0;
                return notes;
            }
            want(in(n, 0, 20), -4);
            for (int i = 0; i < n && onePlace(drum); i++) {
                heads[drum]++;
            }
            return h[0] - notes;
        }

        boolean onePlace(int drum) {
            int k = heads[drum];
            long[] got = {1, 60, 1, Float.floatToRawIntBits(1f), 0};
            int there = 0;
            for (int kind = 0; kind < 5; kind++) {
                Object track = tracks[drum][kind];
                if (track != null && k < size(track)) {
                    got[kind] = inTrack(0, track, k, 0);
                    there++;
                }
            }
            if (there == 0) {
                return false;
            }
            long[] h = heard[drum];
            h[1]++;
            h[2] += 5 - there;
            if (got[0] == 1) {
                long pitch = got[1] + got[4];
                float level = Float.intBitsToFloat((int) got[3]);
                h[3] += pitch * got[2];
                h[4] = h[0] == 0 ? pitch : Math.max(pitch, h[4]);
                greatest[drum] = h[0] == 0 || level > greatest[drum] ? level : greatest[drum];
                h[0]++;
            }
            return true;
        }
    }
}
