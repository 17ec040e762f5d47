/** Promises 13 to 21: combs and their teeth. */
public final class CombsTest {
    private static final int LEVELS = 3;
    private static final int[] NO_COMB = {-1, 4, 3, Integer.MIN_VALUE, Integer.MAX_VALUE};
    private static final int[] NO_TOOTH = {-1, 5, Integer.MIN_VALUE, Integer.MAX_VALUE};
    private static final int[] NO_DRUM = {-1, 8, Integer.MIN_VALUE, Integer.MAX_VALUE};
    private static final Due due = new Due();

    public static void main(String[] args) {
        promise13();
        promise14();
        promise15();
        promise16();
        promise17();
        promise18();
        promise19();
        promise20();
        promise21();
        promises20And21AsDrums();
        due.end();
    }

    private static int bits(float f) {
        return Float.floatToRawIntBits(f);
    }

    /** Comb 0 of a kind with 5 teeth of 6 places; comb 3 is never there. */
    private static MusicBoxes withComb(int kind) {
        MusicBoxes x = new MusicBoxes();
        due.is("13 comb", x.comb(0, kind, 5, 6), 5);
        return x;
    }

    private static void promise13() {
        MusicBoxes x = new MusicBoxes();
        for (int c = 0; c < 4; c++) {
            for (int kind = 0; kind < 5; kind++) {
                due.is("13 comb", x.comb(c, kind, 10 + c, kind), 10 + c);
                due.is("13 its kind", x.about(c, 0), kind);
                due.is("13 its teeth", x.about(c, 1), 10 + c);
                due.is("13 none lacks", x.about(c, 2), 0);
                due.is("13 its places", x.about(c, 3), (10 + c) * kind);
            }
        }
        due.is("13 the most", x.comb(0, 1, 40, 40), 40);
        due.is("13 the most", x.about(0, 3), 1600);
        due.is("13 teeth of their own", x.set(0, 39, 39, 5), 0);
        due.is("13 teeth of their own", x.cell(0, 39, 39), 5);
        due.is("13 teeth of their own", x.cell(0, 38, 39), 0);
        due.is("13 in the place of what it was", x.comb(0, 1, 40, 40), 40);
        due.is("13 all 0", x.cell(0, 39, 39), 0);
        due.refused("13 teeth", x, x.comb(0, 2, -1, 0), MusicBoxes.SIZE);
        due.refused("13 teeth", x, x.comb(0, 2, 41, 0), MusicBoxes.SIZE);
        due.refused("13 teeth", x, x.comb(0, 2, Integer.MAX_VALUE, 0), MusicBoxes.SIZE);
        due.refused("13 places", x, x.comb(0, 2, 0, -1), MusicBoxes.SIZE);
        due.refused("13 places", x, x.comb(0, 2, 0, 41), MusicBoxes.SIZE);
        due.refused("13 places", x, x.comb(0, 2, 1, Integer.MIN_VALUE), MusicBoxes.SIZE);
        due.is("13 refused and not done", x.about(0, 0), 1);
        due.is("13 no teeth", x.comb(0, 2, 0, 40), 0);
        due.is("13 no teeth", x.about(0, 1), 0);
        due.refusedAsZero("13 no teeth", x, x.cell(0, 0, 0), MusicBoxes.NONE);
        due.is("13 no places", x.comb(0, 2, 40, 0), 40);
        due.refusedAsZero("13 no places", x, x.cell(0, 39, 0), MusicBoxes.BEYOND);
        int[] none = {-1, 4, Integer.MIN_VALUE, Integer.MAX_VALUE};
        for (int no : none) {
            due.refused("13 no comb", x, x.comb(no, 0, 41, 41), MusicBoxes.NONE);
            due.refused("13 no kind", x, x.comb(0, no == 4 ? 5 : no, 41, 41), MusicBoxes.NONE);
        }
    }

    private static void promise14() {
        MusicBoxes x = withComb(1);
        x.comb(1, 1, 0, 0);
        x.fit(0, 0, 0);
        due.is("14 drop", x.drop(0), 5);
        due.refused("14 there is none", x, x.drop(0), MusicBoxes.NONE);
        due.refused("14 there is none", x, x.about(0, 1), MusicBoxes.NONE);
        due.is("14 the drum keeps its track", x.places(0, 1), 6);
        due.is("14 of no teeth", x.drop(1), 0);
        due.refused("14 of no teeth", x, x.drop(1), MusicBoxes.NONE);
        for (int no : NO_COMB) {
            due.refused("14 no comb", x, x.drop(no), MusicBoxes.NONE);
        }
    }

    private static void promise15() {
        MusicBoxes x = withComb(4);
        x.cut(0, 4, 300);
        due.is("15 its kind", x.about(0, 0), 4);
        due.is("15 its teeth", x.about(0, 1), 5);
        due.is("15 none lacks", x.about(0, 2), 0);
        due.is("15 all places", x.about(0, 3), 30);
        x.loosen(0, 0);
        x.loosen(0, 4);
        due.is("15 its teeth", x.about(0, 1), 5);
        due.is("15 two lack", x.about(0, 2), 2);
        due.is("15 places of others", x.about(0, 3), 18);
        x.hang(0, 4, 0);
        due.is("15 one lacks", x.about(0, 2), 1);
        due.is("15 places of others", x.about(0, 3), 318);
        due.refused("15 no what", x, x.about(0, -1), MusicBoxes.NONE);
        due.refused("15 no what", x, x.about(0, 4), MusicBoxes.NONE);
        due.refused("15 no what", x, x.about(0, Integer.MIN_VALUE), MusicBoxes.NONE);
        for (int no : NO_COMB) {
            due.refused("15 no comb", x, x.about(no, 0), MusicBoxes.NONE);
        }
    }

    private static void promise16() {
        MusicBoxes x = withComb(2);
        x.fit(0, 4, 1);
        due.is("16 loosen", x.loosen(0, 4), 6);
        due.refused("16 lacks", x, x.loosen(0, 4), MusicBoxes.LACKING);
        due.is("16 the drum keeps it", x.places(1, 2), 6);
        due.is("16 another tooth", x.loosen(0, 3), 6);
        due.is("16 hung and loosened", x.hang(0, 3, 1), 6);
        due.is("16 hung and loosened", x.loosen(0, 3), 6);
        for (int no : NO_TOOTH) {
            due.refused("16 no tooth", x, x.loosen(0, no), MusicBoxes.NONE);
        }
        for (int no : NO_COMB) {
            due.refused("16 no comb", x, x.loosen(no, 0), MusicBoxes.NONE);
        }
    }

    private static void promise17() {
        for (int kind = 0; kind < 5; kind++) {
            MusicBoxes x = withComb(kind);
            int one = kind == LEVELS ? bits(0.125f) : 1;
            due.refused("17 the drum lacks", x, x.hang(0, 2, 7), MusicBoxes.LACKING);
            x.cut(7, (kind + 1) % 5, 9);
            due.refused("17 the drum lacks that kind", x, x.hang(0, 2, 7), MusicBoxes.LACKING);
            due.is("17 refused and not done", x.about(0, 2), 0);
            x.cut(7, kind, 300);
            due.is("17 hang", x.hang(0, 2, 7), 300);
            x.set(0, 2, 299, 1);
            due.is("17 the very track", x.read(7, kind, 299), one);
            x.write(7, kind, 298, 1);
            due.is("17 the very track", x.cell(0, 2, 298), one);
            x.loosen(0, 1);
            due.is("17 a tooth that lacked", x.hang(0, 1, 7), 300);
            due.is("17 a tooth that lacked", x.cell(0, 1, 298), one);
            due.is("17 both teeth count", x.about(0, 3), 618);
            x.cut(7, kind, 1);
            due.is("17 kept", x.cell(0, 1, 298), one);
        }
        MusicBoxes x = withComb(0);
        for (int no : NO_TOOTH) {
            due.refused("17 no tooth", x, x.hang(0, no, 0), MusicBoxes.NONE);
        }
        for (int no : NO_COMB) {
            due.refused("17 no comb", x, x.hang(no, 0, 0), MusicBoxes.NONE);
        }
        for (int no : NO_DRUM) {
            due.refused("17 no drum", x, x.hang(0, 0, no), MusicBoxes.NONE);
        }
    }

    private static void promise18() {
        for (int kind = 0; kind < 5; kind++) {
            MusicBoxes x = withComb(kind);
            int one = kind == LEVELS ? bits(0.125f) : 1;
            due.is("18 fit", x.fit(0, 3, 6), 6);
            due.refused("18 only this kind", x, x.places(6, (kind + 1) % 5), MusicBoxes.LACKING);
            x.write(6, kind, 5, 1);
            due.is("18 the very tooth", x.cell(0, 3, 5), one);
            x.set(0, 3, 0, 1);
            due.is("18 the very tooth", x.read(6, kind, 0), one);
            x.loosen(0, 2);
            due.refused("18 the tooth lacks", x, x.fit(0, 2, 6), MusicBoxes.LACKING);
            due.is("18 refused and not done", x.read(6, kind, 0), one);
            x.comb(0, kind, 5, 6);
            due.is("18 kept", x.read(6, kind, 0), one);
        }
        MusicBoxes x = withComb(0);
        x.loosen(0, 0);
        for (int no : NO_TOOTH) {
            due.refused("18 no tooth", x, x.fit(0, no, 0), MusicBoxes.NONE);
        }
        for (int no : NO_COMB) {
            due.refused("18 no comb", x, x.fit(no, 0, 0), MusicBoxes.NONE);
        }
        for (int no : NO_DRUM) {
            due.refused("18 no drum, the tooth lacks", x, x.fit(0, 0, no), MusicBoxes.NONE);
        }
    }

    private static void promise19() {
        MusicBoxes x = withComb(2);
        x.set(0, 4, 5, -1);
        due.is("19 cell", x.cell(0, 4, 5), -1);
        due.is("19 state() after a negative answer", x.state(), 0);
        due.is("19 cell", x.cell(0, 4, 4), 0);
        due.refusedAsZero("19 beyond", x, x.cell(0, 4, 6), MusicBoxes.BEYOND);
        due.refusedAsZero("19 beyond", x, x.cell(0, 4, -1), MusicBoxes.BEYOND);
        x.loosen(0, 4);
        due.refusedAsZero("19 lacks", x, x.cell(0, 4, 6), MusicBoxes.LACKING);
        for (int no : NO_TOOTH) {
            due.refusedAsZero("19 no tooth", x, x.cell(0, no, 9), MusicBoxes.NONE);
        }
        for (int no : NO_COMB) {
            due.refusedAsZero("19 no comb", x, x.cell(no, 0, 9), MusicBoxes.NONE);
        }
    }

    private static void promise20() {
        MusicBoxes x = withComb(LEVELS);
        due.is("20 set", x.set(0, 0, 5, -8000000), 0);
        due.is("20 set", x.cell(0, 0, 5), bits(-1000000f));
        due.refused("20 bound", x, x.set(0, 0, 5, 8000001), MusicBoxes.BOUND);
        due.is("20 refused and not done", x.cell(0, 0, 5), bits(-1000000f));
        due.refused("20 beyond", x, x.set(0, 0, 6, 8000001), MusicBoxes.BEYOND);
        due.refused("20 beyond", x, x.set(0, 0, -1, 8000001), MusicBoxes.BEYOND);
        x.loosen(0, 0);
        due.refused("20 lacks", x, x.set(0, 0, 6, 8000001), MusicBoxes.LACKING);
        for (int no : NO_TOOTH) {
            due.refused("20 no tooth", x, x.set(0, no, 6, 8000001), MusicBoxes.NONE);
        }
        for (int no : NO_COMB) {
            due.refused("20 no comb", x, x.set(no, 0, 6, 8000001), MusicBoxes.NONE);
        }
    }

    private static void promise21() {
        MusicBoxes x = withComb(LEVELS);
        x.set(0, 0, 5, 8000000);
        due.is("21 twist", x.twist(0, 0, 5, -3), 0);
        due.is("21 twist", x.cell(0, 0, 5), bits(-750000f));
        due.refused("21 bound", x, x.twist(0, 0, 5, 6), MusicBoxes.BOUND);
        due.refused("21 bound", x, x.twist(0, 0, 4, 4001), MusicBoxes.BOUND);
        due.is("21 refused and not done", x.cell(0, 0, 5), bits(-750000f));
        due.refused("21 beyond", x, x.twist(0, 0, 6, 4001), MusicBoxes.BEYOND);
        due.refused("21 beyond", x, x.twist(0, 0, -1, 4001), MusicBoxes.BEYOND);
        x.loosen(0, 0);
        due.refused("21 lacks", x, x.twist(0, 0, 6, 4001), MusicBoxes.LACKING);
        for (int no : NO_TOOTH) {
            due.refused("21 no tooth", x, x.twist(0, no, 6, 4001), MusicBoxes.NONE);
        }
        for (int no : NO_COMB) {
            due.refused("21 no comb", x, x.twist(no, 0, 6, 4001), MusicBoxes.NONE);
        }
    }

    /** set and twist do what write and turn do; TracksTest says what that is. */
    private static void promises20And21AsDrums() {
        int[] values = {0, 1, -1, 3, -128, 300, 3999, 40000, -70000, 8000000, Integer.MIN_VALUE};
        for (int kind = 0; kind < 5; kind++) {
            MusicBoxes x = withComb(kind);
            x.cut(0, kind, 6);
            for (int v : values) {
                due.is("20 as write", x.set(0, 1, 2, v), x.write(0, kind, 2, v));
                due.is("20 as write", x.cell(0, 1, 2), x.read(0, kind, 2));
                for (int w : values) {
                    due.is("21 as turn", x.twist(0, 1, 2, w), x.turn(0, kind, 2, w));
                }
                due.is("21 as turn", x.cell(0, 1, 2), x.read(0, kind, 2));
            }
        }
    }
}
