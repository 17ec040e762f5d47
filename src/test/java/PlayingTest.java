/** Promises 9 to 12: the head, playing, what was heard, quiet. */
public final class PlayingTest {
    private static final int PINS = 0;
    private static final int SIGNS = 1;
    private static final int LENGTHS = 2;
    private static final int LEVELS = 3;
    private static final int BENDS = 4;
    private static final int[] NO_DRUM = {-1, 8, Integer.MIN_VALUE, Integer.MAX_VALUE};
    private static final Due due = new Due();

    public static void main(String[] args) {
        promise9();
        promise10();
        promise10Gaps();
        promise10Refused();
        promise11();
        promise11Weights();
        promise11Highest();
        promise11GreatestLevel();
        promise12();
        due.end();
    }

    private static int bits(float f) {
        return Float.floatToRawIntBits(f);
    }

    private static void heardIs(MusicBoxes x, int drum, long... want) {
        for (int what = 0; what < want.length; what++) {
            due.is("heard(" + drum + ", " + what + ")", x.heard(drum, what), want[what]);
            due.is("state() after heard", x.state(), 0);
        }
    }

    private static void promise9() {
        MusicBoxes x = new MusicBoxes();
        due.is("9 at 0 at first", x.head(3, 300), 0);
        due.is("9 what it was", x.head(3, 7), 300);
        due.is("9 what it was", x.head(3, 0), 7);
        due.is("9 another drum", x.head(4, 5), 0);
        due.is("9 set back", x.head(3, 12), 0);
        due.refused("9 too small", x, x.head(3, -1), MusicBoxes.SIZE);
        due.refused("9 too great", x, x.head(3, 301), MusicBoxes.SIZE);
        due.refused("9 far too small", x, x.head(3, Integer.MIN_VALUE), MusicBoxes.SIZE);
        due.refused("9 far too great", x, x.head(3, Integer.MAX_VALUE), MusicBoxes.SIZE);
        due.is("9 refused and not done", x.heard(3, 6), 12);
        for (int no : NO_DRUM) {
            due.refused("9 no drum", x, x.head(no, 301), MusicBoxes.NONE);
        }
    }

    private static void promise10() {
        MusicBoxes x = new MusicBoxes();
        x.cut(0, PINS, 300);
        for (int k = 0; k < 300; k += 3) {
            x.write(0, PINS, k, 1);
        }
        due.is("10 none at all", x.play(0, 0), 0);
        due.is("10 the head stays", x.heard(0, 6), 0);
        due.is("10 one", x.play(0, 1), 1);
        due.is("10 two without a note", x.play(0, 2), 0);
        due.is("10 twenty", x.play(0, 20), 7);
        due.is("10 the head", x.heard(0, 6), 23);
        x.head(0, 295);
        due.is("10 up to the end", x.play(0, 20), 1);
        due.is("10 the head behind the last", x.heard(0, 6), 300);
        due.is("10 at the end", x.play(0, 20), 0);
        due.is("10 at the end", x.state(), 0);
        due.is("10 the head stays", x.heard(0, 6), 300);
        x.head(0, 297);
        due.is("10 again", x.play(0, 1), 1);
        heardIs(x, 0, 10, 29, 29 * 4, 600, 60, bits(1f), 298);
        due.is("10 another drum lacks all", x.play(1, 20), 0);
        heardIs(x, 1, 0, 0, 0, 0, 0, 0, 0);
    }

    private static void promise10Gaps() {
        for (int kind = 0; kind < 5; kind++) {
            MusicBoxes x = new MusicBoxes();
            x.cut(2, kind, 3);
            int notes = kind == PINS ? 0 : 3;
            due.is("10 one track alone", x.play(2, 20), notes);
            long pitch = kind == SIGNS ? 0 : 60;
            long weight = kind == LENGTHS ? 0 : pitch;
            long level = kind == LEVELS ? 0 : bits(1f);
            if (notes == 0) {
                heardIs(x, 2, 0, 3, 12, 0, 0, 0, 3);
            } else {
                heardIs(x, 2, 3, 3, 12, 3 * weight, pitch, level, 3);
            }
        }
        MusicBoxes x = new MusicBoxes();
        for (int kind = 0; kind < 5; kind++) {
            x.cut(5, kind, kind + 1);
        }
        x.write(5, PINS, 0, 1);
        x.write(5, SIGNS, 0, 200);
        x.write(5, SIGNS, 1, 100);
        x.write(5, LENGTHS, 0, 3);
        x.write(5, LENGTHS, 1, 4);
        x.write(5, LENGTHS, 2, 5);
        x.write(5, LEVELS, 3, 80);
        x.write(5, BENDS, 0, -10);
        x.write(5, BENDS, 4, 100);
        due.is("10 unlike tracks", x.play(5, 20), 5);
        heardIs(x, 5, 5, 5, 0 + 1 + 2 + 3 + 4, 190 * 3 + 100 * 4 + 60 * 5 + 60 + 160, 190, bits(10f), 5);
        x.cut(5, LEVELS, 0);
        x.head(5, 4);
        due.is("10 a track of no places has none", x.play(5, 2), 1);
        heardIs(x, 5, 6, 6, 10 + 4);
    }

    private static void promise10Refused() {
        MusicBoxes x = new MusicBoxes();
        x.cut(0, SIGNS, 30);
        x.play(0, 5);
        due.refused("10 too few", x, x.play(0, -1), MusicBoxes.SIZE);
        due.refused("10 too many", x, x.play(0, 21), MusicBoxes.SIZE);
        due.refused("10 far too few", x, x.play(0, Integer.MIN_VALUE), MusicBoxes.SIZE);
        due.refused("10 far too many", x, x.play(0, Integer.MAX_VALUE), MusicBoxes.SIZE);
        for (int no : NO_DRUM) {
            due.refused("10 no drum", x, x.play(no, 21), MusicBoxes.NONE);
        }
        heardIs(x, 0, 5, 5, 20, 0, 0, bits(1f), 5);
        due.is("10 most", x.play(0, 20), 20);
    }

    private static void promise11() {
        MusicBoxes x = new MusicBoxes();
        x.cut(7, BENDS, 4);
        x.play(7, 20);
        heardIs(x, 7, 4, 4, 16, 240, 60, bits(1f), 4);
        x.head(7, 2);
        heardIs(x, 7, 4, 4, 16, 240, 60, bits(1f), 2);
        x.strip(7, BENDS);
        heardIs(x, 7, 4, 4, 16, 240, 60, bits(1f), 2);
        due.refusedAsZero("11 no what", x, x.heard(7, -1), MusicBoxes.NONE);
        due.refusedAsZero("11 no what", x, x.heard(7, 7), MusicBoxes.NONE);
        due.refusedAsZero("11 no what", x, x.heard(7, Integer.MIN_VALUE), MusicBoxes.NONE);
        due.refusedAsZero("11 no what", x, x.heard(7, Integer.MAX_VALUE), MusicBoxes.NONE);
        for (int no : NO_DRUM) {
            due.refusedAsZero("11 no drum", x, x.heard(no, 0), MusicBoxes.NONE);
        }
    }

    /** Weights that are each beyond an int. */
    private static void promise11Weights() {
        int[] lengths = {32767, -32768};
        for (int length : lengths) {
            MusicBoxes x = new MusicBoxes();
            x.cut(0, SIGNS, 1);
            x.cut(0, LENGTHS, 1);
            x.cut(0, BENDS, 1);
            x.write(0, SIGNS, 0, 65535);
            x.write(0, LENGTHS, 0, length);
            x.write(0, BENDS, 0, 127);
            for (int i = 1; i <= 5; i++) {
                x.head(0, 0);
                due.is("11 a note", x.play(0, 1), 1);
                due.is("11 great weights", x.heard(0, 3), 65662L * length * i);
                due.is("11 state() after a negative answer", x.state(), 0);
            }
        }
    }

    private static void promise11Highest() {
        MusicBoxes x = new MusicBoxes();
        x.cut(0, SIGNS, 3);
        x.cut(0, BENDS, 3);
        x.cut(0, PINS, 3);
        x.write(0, PINS, 0, 0);
        x.write(0, PINS, 1, 1);
        x.write(0, PINS, 2, 1);
        x.write(0, SIGNS, 0, 999);
        x.write(0, BENDS, 1, -128);
        x.write(0, BENDS, 2, -1);
        x.play(0, 1);
        due.is("11 no note, no pitch", x.heard(0, 4), 0);
        x.play(0, 1);
        due.is("11 below 0", x.heard(0, 4), -128);
        due.is("11 state() after a negative answer", x.state(), 0);
        x.play(0, 1);
        due.is("11 higher, below 0", x.heard(0, 4), -1);
        due.is("11 state() after a negative answer", x.state(), 0);
        x.head(0, 1);
        x.play(0, 1);
        due.is("11 lower again", x.heard(0, 4), -1);
    }

    private static void promise11GreatestLevel() {
        int[] eighths = {-800, -8000000, -8, -9, -1};
        float[] greatest = {-100f, -100f, -1f, -1f, -0.125f};
        MusicBoxes x = new MusicBoxes();
        x.cut(0, LEVELS, 5);
        for (int k = 0; k < 5; k++) {
            x.write(0, LEVELS, k, eighths[k]);
            x.play(0, 1);
            due.is("11 greatest below 0", x.heard(0, 5), bits(greatest[k]));
        }
        zerosAreEqual(x, true);
        zerosAreEqual(x, false);
        x.write(0, LEVELS, 0, 1);
        x.head(0, 0);
        x.play(0, 1);
        due.is("11 greater than zero", x.heard(0, 5), bits(0.125f));
        x.write(0, LEVELS, 0, 8000000);
        x.head(0, 0);
        x.play(0, 1);
        due.is("11 the greatest there is", x.heard(0, 5), bits(1000000f));
        x.cut(0, PINS, 1);
        x.quiet(0);
        x.head(0, 0);
        x.play(0, 1);
        due.is("11 no note, no level", x.heard(0, 5), 0);
    }

    /** Of both zeros the one that was first is told. */
    private static void zerosAreEqual(MusicBoxes x, boolean minusFirst) {
        x.cut(0, LEVELS, 2);
        x.turn(0, LEVELS, minusFirst ? 0 : 1, -4);
        x.quiet(0);
        x.head(0, 0);
        due.is("11 both zeros", x.play(0, 2), 2);
        due.is("11 the first zero", x.heard(0, 5), minusFirst ? Integer.MIN_VALUE : 0);
        due.is("11 state() after it", x.state(), 0);
    }

    private static void promise12() {
        MusicBoxes x = new MusicBoxes();
        due.is("12 nothing yet", x.quiet(0), 0);
        x.cut(0, SIGNS, 9);
        x.write(0, SIGNS, 0, 70);
        x.share(0, 1, SIGNS);
        x.play(0, 3);
        x.play(0, 3);
        x.play(1, 2);
        due.is("12 quiet", x.quiet(0), 6);
        heardIs(x, 0, 0, 0, 0, 0, 0, 0, 6);
        heardIs(x, 1, 2, 2, 8, 70, 70, bits(1f), 2);
        due.is("12 quiet again", x.quiet(0), 0);
        due.is("12 plays on", x.play(0, 20), 3);
        heardIs(x, 0, 3, 3, 12, 0, 0, bits(1f), 9);
        for (int no : NO_DRUM) {
            due.refused("12 no drum", x, x.quiet(no), MusicBoxes.NONE);
        }
    }
}
