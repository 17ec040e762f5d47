/** Promises 1 to 8: one test for each sentence, or part of one, that names a boundary. */
public final class TrackEdgesTest {
    private static final int NONE = MusicBoxes.NONE;
    private static final int LACKING = MusicBoxes.LACKING;
    private static final int BEYOND = MusicBoxes.BEYOND;
    private static final int SIZE = MusicBoxes.SIZE;
    private static final int BOUND = MusicBoxes.BOUND;
    private static final int MIN = Integer.MIN_VALUE;
    private static final int MAX = Integer.MAX_VALUE;
    private static final int PINS = 0;
    private static final int SIGNS = 1;
    private static final int LENGTHS = 2;
    private static final int LEVELS = 3;
    private static final int BENDS = 4;
    private static final Due due = new Due();

    public static void main(String[] args) {
        newAllTracksLack();
        newNoCombs();
        cutAll0();
        cutInThePlaceOfWhatItWas();
        cutOthersKeepIt();
        cutSize();
        stripFromNowOn();
        stripHere();
        stripLacking();
        shareTheVeryTrack();
        shareInThePlaceOfWhatItWas();
        shareWithItself();
        shareLackingOfFrom();
        placesLacking();
        readOfLevelsTheBits();
        readLackingBeyond();
        writePins();
        writeLowestBits();
        writeEighths();
        writeLackingBeyond();
        writeBound();
        turnPins();
        turnSigns();
        turnLengths();
        turnBends();
        turnLevels();
        turnLevelsToZeros();
        turnLevelsToTheLeastNumbers();
        turnLackingBeyond();
        turnBoundOfV();
        turnBoundOfTheProduct();
        turnBoundIsOfLevelsAlone();
        due.end();
    }

    private static Run run(String sentence) {
        return new Run(due, "Promise " + sentence);
    }

    private static int bits(float f) {
        return Float.floatToRawIntBits(f);
    }

    private static int one(int kind) {
        return kind == LEVELS ? bits(0.125f) : 1;
    }

    private static void newAllTracksLack() {
        Run run = run("1: All TRACKS LACK");
        for (int drum = 0; drum < 8; drum++) {
            for (int kind = 0; kind < 5; kind++) {
                run.refused(LACKING, "places", drum, kind);
            }
        }
        run.end();
    }

    private static void newNoCombs() {
        Run run = run("1: no COMBS");
        for (int c = 0; c < 4; c++) {
            for (int what = 0; what < 4; what++) {
                run.refused(NONE, "about", c, what);
            }
            run.refused(NONE, "drop", c);
        }
        run.end();
    }

    private static void cutAll0() {
        for (int kind = 0; kind < 5; kind++) {
            Run run = run("2: n PLACES, all 0, of KIND " + kind);
            run.is(100, "cut", 0, kind, 100);
            for (int k = 0; k < 100; k++) {
                run.is(0, "read", 0, kind, k);
            }
            run.refused(BEYOND, "read", 0, kind, 100);
            run.end();
        }
    }

    private static void cutInThePlaceOfWhatItWas() {
        for (int kind = 0; kind < 5; kind++) {
            Run run = run("2: in the place of what it was, of KIND " + kind);
            for (int n : new int[] {300, 300, 2, 2, 1, 0, 0, 1}) {
                run.is(n, "cut", 0, kind, n);
                run.is(n, "places", 0, kind);
                if (n > 0) {
                    run.is(0, "read", 0, kind, n - 1);
                    run.is(0, "write", 0, kind, n - 1, 1);
                    run.is(one(kind), "read", 0, kind, n - 1);
                }
                run.refused(BEYOND, "read", 0, kind, n);
            }
            run.end();
        }
    }

    private static void cutOthersKeepIt() {
        for (int kind = 0; kind < 5; kind++) {
            Run run = run("2: (others that have that one keep it), of KIND " + kind);
            run.is(3, "cut", 0, kind, 3);
            run.is(0, "write", 0, kind, 2, 1);
            run.is(3, "share", 0, 1, kind);
            run.is(1, "comb", 2, kind, 1, 1);
            run.is(3, "hang", 2, 0, 0);
            run.is(3, "cut", 0, kind, 3);
            run.is(0, "read", 0, kind, 2);
            run.is(one(kind), "read", 1, kind, 2);
            run.is(one(kind), "cell", 2, 0, 2);
            run.is(0, "write", 0, kind, 0, 1);
            run.is(0, "read", 1, kind, 0);
            run.is(0, "cell", 2, 0, 0);
            run.end();
        }
    }

    private static void cutSize() {
        for (int kind = 0; kind < 5; kind++) {
            Run run = run("2: SIZE: n is not 0 .. 300, of KIND " + kind);
            for (int n : new int[] {-1, 301, 65536, -300, MIN, MAX}) {
                run.refused(SIZE, "cut", 0, kind, n);
                run.refused(LACKING, "places", 0, kind);
            }
            run.is(0, "cut", 0, kind, 0);
            run.is(300, "cut", 0, kind, 300);
            run.is(0, "write", 0, kind, 299, 1);
            for (int n : new int[] {-1, 301, MIN, MAX}) {
                run.refused(SIZE, "cut", 0, kind, n);
                run.is(one(kind), "read", 0, kind, 299);
            }
            run.end();
        }
    }

    private static void stripFromNowOn() {
        for (int kind = 0; kind < 5; kind++) {
            Run run = run("3: It LACKS from now on, of KIND " + kind);
            for (int n : new int[] {0, 1, 300}) {
                run.is(n, "cut", 0, kind, n);
                run.is(n, "strip", 0, kind);
                run.refused(LACKING, "places", 0, kind);
                run.refused(LACKING, "read", 0, kind, 0);
                run.refused(LACKING, "strip", 0, kind);
            }
            run.is(1, "cut", 0, kind, 1);
            run.is(1, "places", 0, kind);
            run.end();
        }
    }

    private static void stripHere() {
        for (int kind = 0; kind < 5; kind++) {
            Run run = run("3: (here), of KIND " + kind);
            run.is(2, "cut", 0, kind, 2);
            run.is(2, "cut", 0, (kind + 1) % 5, 2);
            run.is(0, "write", 0, kind, 1, 1);
            run.is(2, "share", 0, 7, kind);
            run.is(1, "comb", 0, kind, 1, 1);
            run.is(2, "hang", 0, 0, 7);
            run.is(2, "strip", 0, kind);
            run.is(one(kind), "read", 7, kind, 1);
            run.is(2, "strip", 7, kind);
            run.is(one(kind), "cell", 0, 0, 1);
            run.is(2, "places", 0, (kind + 1) % 5);
            run.end();
        }
    }

    private static void stripLacking() {
        Run run = run("3: LACKING");
        run.is(2, "cut", 1, SIGNS, 2);
        for (int kind = 0; kind < 5; kind++) {
            run.refused(LACKING, "strip", 0, kind);
        }
        run.end();
    }

    private static void shareTheVeryTrack() {
        for (int kind = 0; kind < 5; kind++) {
            for (int n : new int[] {0, 1, 300}) {
                Run run = run("4: the very TRACK, " + n + " PLACES of KIND " + kind);
                run.is(n, "cut", 0, kind, n);
                run.is(n, "share", 0, 7, kind);
                run.is(n, "places", 7, kind);
                run.refused(BEYOND, "write", 7, kind, n, 1);
                if (n > 0) {
                    run.is(0, "write", 7, kind, n - 1, 1);
                    run.is(one(kind), "read", 0, kind, n - 1);
                }
                run.end();
            }
        }
    }

    private static void shareInThePlaceOfWhatItWas() {
        for (int kind = 0; kind < 5; kind++) {
            Run run = run("4: the drum to has from's TRACK, of KIND " + kind);
            run.is(3, "cut", 1, kind, 3);
            run.is(3, "share", 1, 2, kind);
            run.is(1, "cut", 0, kind, 1);
            run.is(1, "share", 0, 1, kind);
            run.is(1, "places", 1, kind);
            run.is(3, "places", 2, kind);
            run.refused(LACKING, "places", 1, (kind + 1) % 5);
            run.end();
        }
    }

    private static void shareWithItself() {
        for (int kind = 0; kind < 5; kind++) {
            Run run = run("4: from and to are one drum, of KIND " + kind);
            run.refused(LACKING, "share", 3, 3, kind);
            run.is(2, "cut", 3, kind, 2);
            run.is(0, "write", 3, kind, 1, 1);
            run.is(2, "share", 3, 3, kind);
            run.is(one(kind), "read", 3, kind, 1);
            run.end();
        }
    }

    private static void shareLackingOfFrom() {
        for (int kind = 0; kind < 5; kind++) {
            Run run = run("4: LACKING (of from), of KIND " + kind);
            run.refused(LACKING, "share", 0, 1, kind);
            run.is(2, "cut", 1, kind, 2);
            run.is(0, "write", 1, kind, 1, 1);
            run.refused(LACKING, "share", 0, 1, kind);
            run.is(one(kind), "read", 1, kind, 1);
            run.is(2, "share", 1, 0, kind);
            run.end();
        }
    }

    private static void placesLacking() {
        Run run = run("5: LACKING");
        for (int kind = 0; kind < 5; kind++) {
            run.refused(LACKING, "places", 7, kind);
            run.is(0, "cut", 7, kind, 0);
            run.is(0, "places", 7, kind);
            run.is(300, "cut", 7, kind, 300);
            run.is(300, "places", 7, kind);
            run.is(300, "strip", 7, kind);
            run.refused(LACKING, "places", 7, kind);
        }
        run.end();
    }

    private static void readOfLevelsTheBits() {
        Run run = run("6: of LEVELS the 32 bits");
        run.is(1, "cut", 0, LEVELS, 1);
        for (int v : new int[] {0, 1, -1, 8, -8, 7999999, -7999999, 8000000, -8000000}) {
            run.is(0, "write", 0, LEVELS, 0, v);
            run.is(bits(v / 8f), "read", 0, LEVELS, 0);
        }
        run.end();
    }

    private static void readLackingBeyond() {
        for (int kind = 0; kind < 5; kind++) {
            Run run = run("6: LACKING, BEYOND, of KIND " + kind);
            run.refused(LACKING, "read", 0, kind, 0);
            for (int n : new int[] {0, 1, 300}) {
                run.is(n, "cut", 0, kind, n);
                run.refused(BEYOND, "read", 0, kind, n);
                run.refused(BEYOND, "read", 0, kind, -1);
                run.refused(BEYOND, "read", 0, kind, MIN);
                run.refused(BEYOND, "read", 0, kind, MAX);
            }
            run.is(0, "read", 0, kind, 299);
            run.end();
        }
    }

    private static void written(Run run, int kind, int v, int read) {
        run.is(0, "write", 0, kind, 1, v);
        run.is(read, "read", 0, kind, 1);
    }

    private static void writePins() {
        Run run = run("7: PINS 1, if v is not 0");
        run.is(3, "cut", 0, PINS, 3);
        for (int v : new int[] {1, 2, -1, -2, 256, 65536, 1 << 30, MIN, MAX}) {
            written(run, PINS, v, 1);
            written(run, PINS, 0, 0);
        }
        run.end();
    }

    private static void writeLowestBits() {
        Run run = run("7: SIGNS, LENGTHS, BENDS the lowest 16, 16, 8 bits of v");
        for (int kind : new int[] {SIGNS, LENGTHS, BENDS}) {
            run.is(3, "cut", 0, kind, 3);
        }
        int[] values = {0, 127, 128, 255, 256, -1, -128, -129, 32767, 32768, 65535, 65536, -32768, -32769, MIN, MAX};
        for (int v : values) {
            written(run, SIGNS, v, Math.floorMod(v, 65536));
            written(run, LENGTHS, v, Math.floorMod(v + 32768, 65536) - 32768);
            written(run, BENDS, v, Math.floorMod(v + 128, 256) - 128);
        }
        for (int kind : new int[] {SIGNS, LENGTHS, BENDS}) {
            run.is(0, "read", 0, kind, 0);
            run.is(0, "read", 0, kind, 2);
        }
        run.end();
    }

    private static void writeEighths() {
        Run run = run("7: LEVELS v eighths");
        run.is(3, "cut", 0, LEVELS, 3);
        for (int v : new int[] {0, 1, -1, 7, 8, 9, -9, 4194303, 4194304, 4194305, 7999999, -7999999, 8000000, -8000000}) {
            written(run, LEVELS, v, bits((float) v / 8f));
        }
        run.end();
    }

    private static void writeLackingBeyond() {
        for (int kind = 0; kind < 5; kind++) {
            Run run = run("7: LACKING, BEYOND, of KIND " + kind);
            run.refused(LACKING, "write", 0, kind, 0, 1);
            for (int n : new int[] {0, 1, 300}) {
                run.is(n, "cut", 0, kind, n);
                for (int no : new int[] {-1, n, MIN, MAX}) {
                    run.refused(BEYOND, "write", 0, kind, no, 1);
                }
            }
            run.is(0, "write", 0, kind, 299, 1);
            run.end();
        }
    }

    private static void writeBound() {
        Run run = run("7: BOUND: of LEVELS v is not -8000000 .. 8000000");
        for (int kind = 0; kind < 5; kind++) {
            run.is(1, "cut", 0, kind, 1);
        }
        run.is(0, "write", 0, LEVELS, 0, 24);
        for (int v : new int[] {8000001, -8000001, MIN, MAX}) {
            run.refused(BOUND, "write", 0, LEVELS, 0, v);
            run.is(bits(3f), "read", 0, LEVELS, 0);
            for (int kind : new int[] {PINS, SIGNS, LENGTHS, BENDS}) {
                run.is(0, "write", 0, kind, 0, v);
            }
        }
        run.is(0, "write", 0, LEVELS, 0, 8000000);
        run.is(bits(1000000f), "read", 0, LEVELS, 0);
        run.is(0, "write", 0, LEVELS, 0, -8000000);
        run.is(bits(-1000000f), "read", 0, LEVELS, 0);
        run.end();
    }

    private static void turned(Run run, int kind, int from, int v, int to) {
        run.is(0, "write", 0, kind, 1, from);
        run.is(0, "turn", 0, kind, 1, v);
        run.is(to, "read", 0, kind, 1);
    }

    private static void turnPins() {
        Run run = run("8: PINS, if v is odd, the other one of both");
        run.is(3, "cut", 0, PINS, 3);
        for (int v : new int[] {0, 2, -2, 256, MIN, MAX - 1}) {
            turned(run, PINS, 0, v, 0);
            turned(run, PINS, 1, v, 1);
        }
        for (int v : new int[] {1, -1, 3, -3, 257, MIN + 1, MAX}) {
            turned(run, PINS, 0, v, 1);
            turned(run, PINS, 1, v, 0);
        }
        run.is(0, "read", 0, PINS, 0);
        run.is(0, "read", 0, PINS, 2);
        run.end();
    }

    private static void turnSigns() {
        Run run = run("8: SIGNS v more");
        run.is(3, "cut", 0, SIGNS, 3);
        turned(run, SIGNS, 7, 0, 7);
        turned(run, SIGNS, 65534, 1, 65535);
        turned(run, SIGNS, 65535, 1, 0);
        turned(run, SIGNS, 0, -1, 65535);
        turned(run, SIGNS, 0, 65535, 65535);
        turned(run, SIGNS, 5, 65536, 5);
        turned(run, SIGNS, 5, -65536, 5);
        turned(run, SIGNS, 5, MIN, 5);
        turned(run, SIGNS, 5, MAX, 4);
        turned(run, SIGNS, 65535, MAX, 65534);
        run.is(0, "read", 0, SIGNS, 0);
        run.is(0, "read", 0, SIGNS, 2);
        run.end();
    }

    private static void turnLengths() {
        Run run = run("8: LENGTHS v times as much");
        run.is(3, "cut", 0, LENGTHS, 3);
        turned(run, LENGTHS, 7, 0, 0);
        turned(run, LENGTHS, 0, MAX, 0);
        turned(run, LENGTHS, 7, -1, -7);
        turned(run, LENGTHS, 32767, 1, 32767);
        turned(run, LENGTHS, 32767, -1, -32767);
        turned(run, LENGTHS, 32767, 2, -2);
        turned(run, LENGTHS, 16384, 2, -32768);
        turned(run, LENGTHS, -16384, 2, -32768);
        turned(run, LENGTHS, -32768, -1, -32768);
        turned(run, LENGTHS, -32768, 2, 0);
        turned(run, LENGTHS, 3, 65536, 0);
        turned(run, LENGTHS, 3, 65537, 3);
        turned(run, LENGTHS, -1, MIN, 0);
        turned(run, LENGTHS, -32768, MIN, 0);
        turned(run, LENGTHS, 5, MAX, -5);
        turned(run, LENGTHS, 32767, MAX, -32767);
        run.is(0, "read", 0, LENGTHS, 0);
        run.is(0, "read", 0, LENGTHS, 2);
        run.end();
    }

    private static void turnBends() {
        Run run = run("8: BENDS v less");
        run.is(3, "cut", 0, BENDS, 3);
        turned(run, BENDS, 7, 0, 7);
        turned(run, BENDS, -127, 1, -128);
        turned(run, BENDS, -128, 1, 127);
        turned(run, BENDS, 126, -1, 127);
        turned(run, BENDS, 127, -1, -128);
        turned(run, BENDS, 0, 128, -128);
        turned(run, BENDS, 5, 256, 5);
        turned(run, BENDS, 5, -256, 5);
        turned(run, BENDS, 5, MIN, 5);
        turned(run, BENDS, -128, MIN, -128);
        turned(run, BENDS, 5, MAX, 6);
        turned(run, BENDS, -128, MAX, -127);
        run.is(0, "read", 0, BENDS, 0);
        run.is(0, "read", 0, BENDS, 2);
        run.end();
    }

    private static void turnLevels() {
        Run run = run("8: LEVELS v quarters times as much");
        run.is(3, "cut", 0, LEVELS, 3);
        turned(run, LEVELS, 8, 4, bits(1f));
        turned(run, LEVELS, 8, 1, bits(0.25f));
        turned(run, LEVELS, 8, -1, bits(-0.25f));
        turned(run, LEVELS, -8, -4000, bits(1000f));
        turned(run, LEVELS, -8, 4000, bits(-1000f));
        // Products that no float is: 7999999 eighths are of 23 bits already.
        turned(run, LEVELS, 7999999, 3, bits(999999.875f * 0.75f));
        turned(run, LEVELS, 4444443, 7, bits(555555.375f * 1.75f));
        turned(run, LEVELS, -4444443, 7, bits(-555555.375f * 1.75f));
        run.is(0, "read", 0, LEVELS, 0);
        run.is(0, "read", 0, LEVELS, 2);
        run.end();
    }

    private static void turnLevelsToZeros() {
        Run run = run("8: (the float times the float v quarters), to both zeros");
        int minusZero = 0x80000000;
        run.is(3, "cut", 0, LEVELS, 3);
        turned(run, LEVELS, 0, 0, 0);
        turned(run, LEVELS, 0, 4000, 0);
        turned(run, LEVELS, 0, -4000, minusZero);
        run.is(0, "turn", 0, LEVELS, 1, 4);
        run.is(minusZero, "read", 0, LEVELS, 1);
        run.is(0, "turn", 0, LEVELS, 1, 0);
        run.is(minusZero, "read", 0, LEVELS, 1);
        run.is(0, "turn", 0, LEVELS, 1, -1);
        run.is(0, "read", 0, LEVELS, 1);
        turned(run, LEVELS, 8000000, 0, 0);
        turned(run, LEVELS, -8000000, 0, minusZero);
        run.is(0, "write", 0, LEVELS, 1, 0);
        run.is(0, "read", 0, LEVELS, 1);
        run.end();
    }

    private static void turnLevelsToTheLeastNumbers() {
        Run run = run("8: (the float times the float v quarters), down to the least numbers and 0");
        run.is(1, "cut", 0, LEVELS, 1);
        run.is(0, "write", 0, LEVELS, 0, 12345);
        float level = 12345f / 8f;
        for (int i = 0; i < 70; i++) {
            int v = i % 2 == 0 ? 1 : -1;
            level = level * (v / 4f);
            run.is(0, "turn", 0, LEVELS, 0, v);
            run.is(bits(level), "read", 0, LEVELS, 0);
        }
        due.is("the least numbers were met", bits(level) & 0x7f800000, 0);
        due.is("it is not 0 yet", level != 0 ? 1 : 0, 1);
        run.end();
        turnUpFromTheLeastNumbers();
    }

    private static void turnUpFromTheLeastNumbers() {
        MusicBoxes x = new MusicBoxes();
        x.cut(0, LEVELS, 1);
        x.write(0, LEVELS, 0, 12345);
        float level = 12345f / 8f;
        for (int i = 0; i < 90; i++) {
            int v = i < 79 ? 1 : 3999;
            level = level * (v / 4f);
            due.is("8: down and up", x.turn(0, LEVELS, 0, v), 0);
            due.is("8: down and up, " + i, x.read(0, LEVELS, 0), bits(level));
        }
        due.is("8: up again", level > 1e-13f ? 1 : 0, 1);
    }

    private static void turnLackingBeyond() {
        for (int kind = 0; kind < 5; kind++) {
            Run run = run("8: LACKING, BEYOND, of KIND " + kind);
            run.refused(LACKING, "turn", 0, kind, 0, 1);
            for (int n : new int[] {0, 1, 300}) {
                run.is(n, "cut", 0, kind, n);
                for (int no : new int[] {-1, n, MIN, MAX}) {
                    run.refused(BEYOND, "turn", 0, kind, no, 1);
                }
            }
            run.is(0, "turn", 0, kind, 299, 1);
            run.end();
        }
    }

    private static void turnBoundOfV() {
        Run run = run("8: BOUND: of LEVELS v is not -4000 .. 4000");
        run.is(2, "cut", 0, LEVELS, 2);
        run.is(0, "write", 0, LEVELS, 1, 8);
        for (int v : new int[] {4001, -4001, MIN, MAX}) {
            run.refused(BOUND, "turn", 0, LEVELS, 1, v);
            run.refused(BOUND, "turn", 0, LEVELS, 0, v);
        }
        run.is(bits(1f), "read", 0, LEVELS, 1);
        run.is(0, "turn", 0, LEVELS, 1, 4000);
        run.is(bits(1000f), "read", 0, LEVELS, 1);
        run.is(0, "turn", 0, LEVELS, 1, -4000);
        run.is(bits(-1000000f), "read", 0, LEVELS, 1);
        run.end();
    }

    private static void turnBoundOfTheProduct() {
        Run run = run("8: BOUND: it would be below -1000000 or above 1000000");
        run.is(3, "cut", 0, LEVELS, 3);
        turned(run, LEVELS, 8000000, 4, bits(1000000f));
        turned(run, LEVELS, 8000000, -4, bits(-1000000f));
        turned(run, LEVELS, 8000, 4000, bits(1000000f));
        turned(run, LEVELS, 8000, -4000, bits(-1000000f));
        for (int v : new int[] {5, -5, 4000, -4000}) {
            run.is(0, "write", 0, LEVELS, 1, 8000000);
            run.refused(BOUND, "turn", 0, LEVELS, 1, v);
            run.is(bits(1000000f), "read", 0, LEVELS, 1);
            run.is(0, "write", 0, LEVELS, 1, -8000000);
            run.refused(BOUND, "turn", 0, LEVELS, 1, v);
            run.is(bits(-1000000f), "read", 0, LEVELS, 1);
        }
        // 24961 eighths times 1282 quarters is 1000000.0625, the next float above the bound.
        run.is(0, "write", 0, LEVELS, 1, 24961);
        run.refused(BOUND, "turn", 0, LEVELS, 1, 1282);
        run.refused(BOUND, "turn", 0, LEVELS, 1, -1282);
        // 57041 eighths times 561 quarters is 1000000.03125, and as a float the bound itself.
        turned(run, LEVELS, 57041, 561, bits(1000000f));
        turned(run, LEVELS, 57041, -561, bits(-1000000f));
        run.end();
    }

    private static void turnBoundIsOfLevelsAlone() {
        Run run = run("8: BOUND: of LEVELS, and of no other KIND");
        for (int kind : new int[] {PINS, SIGNS, LENGTHS, BENDS}) {
            run.is(1, "cut", 0, kind, 1);
            for (int v : new int[] {4001, -4001, 1000001, MIN, MAX}) {
                run.is(0, "write", 0, kind, 0, 1);
                run.is(0, "turn", 0, kind, 0, v);
            }
        }
        run.end();
    }
}
