/** Promises 1 to 8: a new object, and the tracks of drums. */
public final class TracksTest {
    private static final int PINS = 0;
    private static final int SIGNS = 1;
    private static final int LENGTHS = 2;
    private static final int LEVELS = 3;
    private static final int BENDS = 4;
    private static final int[] NO_DRUM = {-1, 8, Integer.MIN_VALUE, Integer.MAX_VALUE};
    private static final int[] NO_KIND = {-1, 5, Integer.MIN_VALUE, Integer.MAX_VALUE};
    private static final Due due = new Due();

    public static void main(String[] args) {
        promise1();
        promise2();
        promise3();
        promise4();
        promise5();
        promise6();
        promise7();
        promise7Levels();
        promise8();
        promise8Levels();
        promise8SmallLevels();
        due.end();
    }

    private static int bits(float f) {
        return Float.floatToRawIntBits(f);
    }

    private static void promise1() {
        MusicBoxes x = new MusicBoxes();
        due.is("1 state() of a new object", x.state(), 0);
        for (int drum = 0; drum < 8; drum++) {
            for (int kind = 0; kind < 5; kind++) {
                due.refused("1 places", x, x.places(drum, kind), MusicBoxes.LACKING);
            }
            for (int what = 0; what < 7; what++) {
                due.is("1 heard", x.heard(drum, what), 0);
            }
        }
        for (int c = 0; c < 4; c++) {
            due.refused("1 about", x, x.about(c, 0), MusicBoxes.NONE);
        }
        MusicBoxes y = new MusicBoxes();
        y.cut(0, PINS, 3);
        due.is("1 objects are apart", x.places(0, PINS), MusicBoxes.LACKING);
    }

    private static void promise2() {
        MusicBoxes x = new MusicBoxes();
        for (int kind = 0; kind < 5; kind++) {
            for (int drum = 0; drum < 8; drum++) {
                due.is("2 cut", x.cut(drum, kind, 10 * kind + drum), 10 * kind + drum);
            }
        }
        for (int kind = 0; kind < 5; kind++) {
            for (int drum = 0; drum < 8; drum++) {
                due.is("2 places", x.places(drum, kind), 10 * kind + drum);
            }
        }
        for (int kind = 0; kind < 5; kind++) {
            x.cut(0, kind, 2);
            x.write(0, kind, 1, 1);
            x.share(0, 1, kind);
            int old = x.read(0, kind, 1);
            due.is("2 cut the same size", x.cut(0, kind, 2), 2);
            due.is("2 all are 0", x.read(0, kind, 1), 0);
            due.is("2 the other keeps it", x.read(1, kind, 1), old);
            due.is("2 no places", x.cut(0, kind, 0), 0);
            due.is("2 no places", x.places(0, kind), 0);
            due.is("2 most places", x.cut(0, kind, 300), 300);
            due.refused("2 too few", x, x.cut(0, kind, -1), MusicBoxes.SIZE);
            due.refused("2 too many", x, x.cut(0, kind, 301), MusicBoxes.SIZE);
            due.refused("2 far too few", x, x.cut(0, kind, Integer.MIN_VALUE), MusicBoxes.SIZE);
            due.refused("2 far too many", x, x.cut(0, kind, Integer.MAX_VALUE), MusicBoxes.SIZE);
            due.is("2 refused and not done", x.places(0, kind), 300);
        }
        for (int no : NO_DRUM) {
            due.refused("2 no drum", x, x.cut(no, 0, -1), MusicBoxes.NONE);
        }
        for (int no : NO_KIND) {
            due.refused("2 no kind", x, x.cut(0, no, 301), MusicBoxes.NONE);
        }
    }

    private static void promise3() {
        MusicBoxes x = new MusicBoxes();
        for (int kind = 0; kind < 5; kind++) {
            x.cut(7, kind, 4);
            x.write(7, kind, 3, 1);
            x.share(7, 6, kind);
            int old = x.read(7, kind, 3);
            due.is("3 strip", x.strip(7, kind), 4);
            due.refused("3 lacks", x, x.strip(7, kind), MusicBoxes.LACKING);
            due.refused("3 lacks", x, x.places(7, kind), MusicBoxes.LACKING);
            due.is("3 only here", x.read(6, kind, 3), old);
            x.cut(7, kind, 0);
            due.is("3 strip of no places", x.strip(7, kind), 0);
            due.refused("3 lacks", x, x.strip(7, kind), MusicBoxes.LACKING);
        }
        for (int no : NO_DRUM) {
            due.refused("3 no drum", x, x.strip(no, 0), MusicBoxes.NONE);
        }
        for (int no : NO_KIND) {
            due.refused("3 no kind", x, x.strip(0, no), MusicBoxes.NONE);
        }
    }

    private static void promise4() {
        MusicBoxes x = new MusicBoxes();
        for (int kind = 0; kind < 5; kind++) {
            x.cut(0, kind, 5);
            x.cut(1, kind, 9);
            due.is("4 share", x.share(0, 1, kind), 5);
            due.is("4 share on", x.share(1, 2, kind), 5);
            due.is("4 share with itself", x.share(2, 2, kind), 5);
            x.write(2, kind, 4, 1);
            int one = kind == LEVELS ? bits(0.125f) : 1;
            due.is("4 written in all", x.read(0, kind, 4), one);
            due.is("4 written in all", x.read(1, kind, 4), one);
            due.refused("4 from lacks", x, x.share(3, 1, kind), MusicBoxes.LACKING);
            due.is("4 refused and not done", x.places(1, kind), 5);
            due.is("4 other kinds are not shared", x.places(1, (kind + 1) % 5), kind == 4 ? 5 : -2);
        }
        for (int no : NO_DRUM) {
            due.refused("4 no from", x, x.share(no, 1, 0), MusicBoxes.NONE);
            due.refused("4 no to", x, x.share(0, no, 0), MusicBoxes.NONE);
            due.refused("4 no to, from lacks", x, x.share(3, no, 0), MusicBoxes.NONE);
        }
        for (int no : NO_KIND) {
            due.refused("4 no kind", x, x.share(0, 1, no), MusicBoxes.NONE);
        }
    }

    private static void promise5() {
        MusicBoxes x = new MusicBoxes();
        due.refused("5 lacks", x, x.places(0, BENDS), MusicBoxes.LACKING);
        x.cut(0, BENDS, 17);
        due.is("5 places", x.places(0, BENDS), 17);
        due.is("5 state", x.state(), 0);
        for (int no : NO_DRUM) {
            due.refused("5 no drum", x, x.places(no, 0), MusicBoxes.NONE);
        }
        for (int no : NO_KIND) {
            due.refused("5 no kind", x, x.places(0, no), MusicBoxes.NONE);
        }
    }

    private static void promise6() {
        MusicBoxes x = new MusicBoxes();
        for (int kind = 0; kind < 5; kind++) {
            due.refusedAsZero("6 lacks", x, x.read(0, kind, 0), MusicBoxes.LACKING);
            due.refusedAsZero("6 lacks before beyond", x, x.read(0, kind, -1), MusicBoxes.LACKING);
            x.cut(0, kind, 3);
            x.write(0, kind, 2, 1);
            due.is("6 read the first", x.read(0, kind, 0), 0);
            due.is("6 state", x.state(), 0);
            due.is("6 read the last", x.read(0, kind, 2), kind == LEVELS ? bits(0.125f) : 1);
            due.refusedAsZero("6 beyond", x, x.read(0, kind, 3), MusicBoxes.BEYOND);
            due.refusedAsZero("6 beyond", x, x.read(0, kind, -1), MusicBoxes.BEYOND);
            due.refusedAsZero("6 beyond", x, x.read(0, kind, Integer.MIN_VALUE), MusicBoxes.BEYOND);
            due.refusedAsZero("6 beyond", x, x.read(0, kind, Integer.MAX_VALUE), MusicBoxes.BEYOND);
        }
        for (int no : NO_DRUM) {
            due.refusedAsZero("6 no drum", x, x.read(no, 0, 9), MusicBoxes.NONE);
        }
        for (int no : NO_KIND) {
            due.refusedAsZero("6 no kind", x, x.read(0, no, 9), MusicBoxes.NONE);
        }
    }

    private static void promise7() {
        MusicBoxes x = new MusicBoxes();
        int[] values = {0, 1, -1, 2, 127, 128, -128, -129, 255, 256, 32767, 32768, -32768, -32769,
            65535, 65536, 65537, Integer.MAX_VALUE, Integer.MIN_VALUE, 0x12345678};
        for (int kind = 0; kind < 5; kind++) {
            due.refused("7 lacks", x, x.write(0, kind, 0, Integer.MAX_VALUE), MusicBoxes.LACKING);
            x.cut(0, kind, 3);
            due.refused("7 beyond", x, x.write(0, kind, 3, Integer.MAX_VALUE), MusicBoxes.BEYOND);
            due.refused("7 beyond", x, x.write(0, kind, -1, 0), MusicBoxes.BEYOND);
            due.refused("7 beyond", x, x.write(0, kind, Integer.MIN_VALUE, 0), MusicBoxes.BEYOND);
        }
        for (int v : values) {
            due.is("7 write", x.write(0, PINS, 1, v), 0);
            due.is("7 pins", x.read(0, PINS, 1), v == 0 ? 0 : 1);
            due.is("7 write", x.write(0, SIGNS, 1, v), 0);
            due.is("7 signs", x.read(0, SIGNS, 1), (char) v);
            due.is("7 write", x.write(0, LENGTHS, 1, v), 0);
            due.is("7 lengths", x.read(0, LENGTHS, 1), (short) v);
            due.is("7 write", x.write(0, BENDS, 1, v), 0);
            due.is("7 bends", x.read(0, BENDS, 1), (byte) v);
        }
        for (int kind = 0; kind < 5; kind++) {
            due.is("7 not the one before", x.read(0, kind, 0), 0);
            due.is("7 not the one behind", x.read(0, kind, 2), 0);
        }
        for (int no : NO_DRUM) {
            due.refused("7 no drum", x, x.write(no, 3, 9, 9000000), MusicBoxes.NONE);
        }
        for (int no : NO_KIND) {
            due.refused("7 no kind", x, x.write(0, no, 9, 9000000), MusicBoxes.NONE);
        }
    }

    private static void promise7Levels() {
        MusicBoxes x = new MusicBoxes();
        x.cut(0, LEVELS, 2);
        int[] values = {0, 1, -1, 2, 3, 7, 8, -8, 9, 800, 123457, -654321, 7999999, -7999999, 8000000, -8000000};
        for (int v : values) {
            due.is("7 write", x.write(0, LEVELS, 1, v), 0);
            due.is("7 levels " + v, x.read(0, LEVELS, 1), bits((float) v / 8));
        }
        due.refused("7 bound", x, x.write(0, LEVELS, 1, 8000001), MusicBoxes.BOUND);
        due.refused("7 bound", x, x.write(0, LEVELS, 1, -8000001), MusicBoxes.BOUND);
        due.refused("7 bound", x, x.write(0, LEVELS, 1, Integer.MAX_VALUE), MusicBoxes.BOUND);
        due.refused("7 bound", x, x.write(0, LEVELS, 1, Integer.MIN_VALUE), MusicBoxes.BOUND);
        due.is("7 refused and not done", x.read(0, LEVELS, 1), bits(-1000000f));
        due.is("7 not the one before", x.read(0, LEVELS, 0), 0);
    }

    private static void promise8() {
        MusicBoxes x = new MusicBoxes();
        for (int kind = 0; kind < 5; kind++) {
            due.refused("8 lacks", x, x.turn(0, kind, 0, 5000), MusicBoxes.LACKING);
            x.cut(0, kind, 3);
            due.refused("8 beyond", x, x.turn(0, kind, 3, 5000), MusicBoxes.BEYOND);
            due.refused("8 beyond", x, x.turn(0, kind, -1, 1), MusicBoxes.BEYOND);
            due.refused("8 beyond", x, x.turn(0, kind, Integer.MIN_VALUE, 1), MusicBoxes.BEYOND);
        }
        int[] values = {0, 1, -1, 2, -2, 3, -3, 127, 128, -129, 300, 32767, -32768, 65535, 65537,
            Integer.MAX_VALUE, Integer.MIN_VALUE, 0x12345679};
        int pin = 0;
        char sign = 65000;
        short length = 3;
        byte bend = 100;
        x.write(0, SIGNS, 1, sign);
        x.write(0, LENGTHS, 1, length);
        x.write(0, BENDS, 1, bend);
        for (int v : values) {
            pin = v % 2 == 0 ? pin : 1 - pin;
            sign = (char) ((long) sign + v);
            length = (short) ((long) length * v);
            bend = (byte) ((long) bend - v);
            due.is("8 turn", x.turn(0, PINS, 1, v), 0);
            due.is("8 pins " + v, x.read(0, PINS, 1), pin);
            due.is("8 turn", x.turn(0, SIGNS, 1, v), 0);
            due.is("8 signs " + v, x.read(0, SIGNS, 1), sign);
            due.is("8 turn", x.turn(0, LENGTHS, 1, v), 0);
            due.is("8 lengths " + v, x.read(0, LENGTHS, 1), length);
            due.is("8 turn", x.turn(0, BENDS, 1, v), 0);
            due.is("8 bends " + v, x.read(0, BENDS, 1), bend);
            length = length == 0 ? 12345 : length;
            x.write(0, LENGTHS, 1, length);
        }
        for (int kind = 0; kind < 5; kind++) {
            due.is("8 not the one before", x.read(0, kind, 0), 0);
            due.is("8 not the one behind", x.read(0, kind, 2), 0);
        }
        for (int no : NO_DRUM) {
            due.refused("8 no drum", x, x.turn(no, 3, 9, 5000), MusicBoxes.NONE);
        }
        for (int no : NO_KIND) {
            due.refused("8 no kind", x, x.turn(0, no, 9, 5000), MusicBoxes.NONE);
        }
    }

    private static void promise8Levels() {
        MusicBoxes x = new MusicBoxes();
        x.cut(0, LEVELS, 2);
        x.write(0, LEVELS, 1, 8000000);
        due.is("8 times 1", x.turn(0, LEVELS, 1, 4), 0);
        due.is("8 at the bound", x.read(0, LEVELS, 1), bits(1000000f));
        due.is("8 times -1", x.turn(0, LEVELS, 1, -4), 0);
        due.is("8 at the bound", x.read(0, LEVELS, 1), bits(-1000000f));
        due.refused("8 below", x, x.turn(0, LEVELS, 1, 5), MusicBoxes.BOUND);
        due.refused("8 above", x, x.turn(0, LEVELS, 1, -5), MusicBoxes.BOUND);
        due.refused("8 far above", x, x.turn(0, LEVELS, 1, -4000), MusicBoxes.BOUND);
        due.is("8 refused and not done", x.read(0, LEVELS, 1), bits(-1000000f));
        x.write(0, LEVELS, 1, 8);
        due.is("8 most quarters", x.turn(0, LEVELS, 1, 4000), 0);
        due.is("8 most quarters", x.read(0, LEVELS, 1), bits(1000f));
        due.is("8 least quarters", x.turn(0, LEVELS, 1, -4000), 0);
        due.is("8 least quarters", x.read(0, LEVELS, 1), bits(-1000000f));
        x.write(0, LEVELS, 1, 0);
        due.refused("8 v too great", x, x.turn(0, LEVELS, 1, 4001), MusicBoxes.BOUND);
        due.refused("8 v too small", x, x.turn(0, LEVELS, 1, -4001), MusicBoxes.BOUND);
        due.refused("8 v far too small", x, x.turn(0, LEVELS, 1, Integer.MIN_VALUE), MusicBoxes.BOUND);
        due.refused("8 v far too great", x, x.turn(0, LEVELS, 1, Integer.MAX_VALUE), MusicBoxes.BOUND);
        due.is("8 zero", x.turn(0, LEVELS, 1, -1), 0);
        due.is("8 the other zero", x.read(0, LEVELS, 1), bits(-0.0f));
        due.is("8 zero", x.turn(0, LEVELS, 1, 0), 0);
        due.is("8 -0 times 0", x.read(0, LEVELS, 1), bits(-0.0f));
        due.is("8 zero", x.turn(0, LEVELS, 1, -1), 0);
        due.is("8 -0 times -1", x.read(0, LEVELS, 1), 0);
        x.write(0, LEVELS, 1, -8);
        x.turn(0, LEVELS, 1, 0);
        due.is("8 -1 times 0", x.read(0, LEVELS, 1), bits(-0.0f));
        roundedToTheBound();
    }

    /** What counts is the float that it would be: 1000000.03125 is none, and the nearest one is the bound. */
    private static void roundedToTheBound() {
        MusicBoxes x = new MusicBoxes();
        x.cut(0, LEVELS, 1);
        x.write(0, LEVELS, 0, 57041);
        due.is("8 rounded to the bound", x.turn(0, LEVELS, 0, 561), 0);
        due.is("8 rounded to the bound", x.read(0, LEVELS, 0), bits(1000000f));
        x.write(0, LEVELS, 0, 57041);
        due.is("8 rounded to the bound", x.turn(0, LEVELS, 0, -561), 0);
        due.is("8 rounded to the bound", x.read(0, LEVELS, 0), bits(-1000000f));
        x.write(0, LEVELS, 0, 24961);
        due.refused("8 the next float above", x, x.turn(0, LEVELS, 0, 1282), MusicBoxes.BOUND);
        due.refused("8 the next float below", x, x.turn(0, LEVELS, 0, -1282), MusicBoxes.BOUND);
        due.is("8 refused and not done", x.read(0, LEVELS, 0), bits(24961f / 8));
    }

    /** Turned smaller and smaller, down to the least numbers that there are, and to 0. */
    private static void promise8SmallLevels() {
        int[] quarters = {1, -1, 2, 3, -3};
        for (int v : quarters) {
            MusicBoxes x = new MusicBoxes();
            x.cut(0, LEVELS, 1);
            x.write(0, LEVELS, 0, 5555555);
            float level = 5555555f / 8;
            for (int i = 0; i < 250; i++) {
                int by = v == 3 && i < 60 || v == -3 && i < 70 ? 1 : v;
                level = level * (by / 4f);
                due.is("8 small", x.turn(0, LEVELS, 0, by), 0);
                due.is("8 small, " + i + " times " + v, x.read(0, LEVELS, 0), bits(level));
            }
        }
    }
}
