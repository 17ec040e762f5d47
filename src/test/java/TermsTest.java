/** The document's 'Terms': one test for each sentence, or part of one, that names a boundary. */
public final class TermsTest {
    private static final int NONE = MusicBoxes.NONE;
    private static final int LACKING = MusicBoxes.LACKING;
    private static final int BEYOND = MusicBoxes.BEYOND;
    private static final int SIZE = MusicBoxes.SIZE;
    private static final int BOUND = MusicBoxes.BOUND;
    private static final int MIN = Integer.MIN_VALUE;
    private static final int MAX = Integer.MAX_VALUE;
    private static final Due due = new Due();

    public static void main(String[] args) {
        drumsAre0To7();
        kindsAre0To4();
        pinsAre0And1();
        signsAre0To65535();
        lengthsAreOf16Bits();
        levelsAreOf32Bits();
        bendsAreOf8Bits();
        aTrackLacksAtFirst();
        aTrackHas0To300Places();
        placesAreNumberedFrom0On();
        aTrackOfNoPlacesDoesNotLack();
        drumsHaveTheVerySameTrack();
        teethHaveTheVerySameTrack();
        combsAre0To3();
        combsAreNoneAtFirst();
        combsHave0To40Teeth();
        teethAreOfTheCombsKind();
        noneComesFirst();
        lackingComesBeforeBeyondAndBound();
        beyondComesBeforeBound();
        noneComesBeforeSize();
        readCellAndHeardAnswer0();
        objectsAreUsedFor512Calls();
        due.end();
    }

    private static Run run(String sentence) {
        return new Run(due, "Terms: " + sentence);
    }

    private static int bits(float f) {
        return Float.floatToRawIntBits(f);
    }

    private static void drumsAre0To7() {
        Run first = run("DRUMS 0 .. 7");
        for (int drum = 0; drum <= 7; drum += 7) {
            first.is(2, "cut", drum, 1, 2);
            first.is(2, "share", drum, 7 - drum, 1);
            first.is(2, "places", drum, 1);
            first.is(0, "write", drum, 1, 1, 9);
            first.is(0, "turn", drum, 1, 1, 1);
            first.is(10, "read", drum, 1, 1);
            first.is(0, "head", drum, 1);
            first.is(1, "play", drum, 20);
            first.is(10, "heard", drum, 4);
            first.is(1, "quiet", drum);
            first.is(2, "strip", drum, 1);
        }
        first.end();
        for (int no : new int[] {-1, 8, MIN, MAX}) {
            Run run = run("DRUMS 0 .. 7, not " + no);
            run.is(2, "comb", 0, 1, 2, 2);
            run.is(2, "cut", 0, 1, 2);
            run.is(2, "cut", 7, 1, 2);
            run.refused(NONE, "cut", no, 1, 2);
            run.refused(NONE, "strip", no, 1);
            run.refused(NONE, "share", no, 7, 1);
            run.refused(NONE, "share", 0, no, 1);
            run.refused(NONE, "share", no, no, 1);
            run.refused(NONE, "places", no, 1);
            run.refused(NONE, "read", no, 1, 0);
            run.refused(NONE, "write", no, 1, 0, 1);
            run.refused(NONE, "turn", no, 1, 0, 1);
            run.refused(NONE, "head", no, 1);
            run.refused(NONE, "play", no, 1);
            run.refused(NONE, "heard", no, 1);
            run.refused(NONE, "quiet", no);
            run.refused(NONE, "hang", 0, 0, no);
            run.refused(NONE, "fit", 0, 0, no);
            run.end();
        }
    }

    private static void kindsAre0To4() {
        Run all = run("five TRACKS, numbered by their KIND");
        for (int kind = 0; kind < 5; kind++) {
            all.is(kind, "cut", 0, kind, kind);
            all.is(kind, "comb", 0, kind, kind, 1);
        }
        for (int kind = 0; kind < 5; kind++) {
            all.is(kind, "places", 0, kind);
        }
        all.end();
        for (int no : new int[] {-1, 5, MIN, MAX}) {
            Run run = run("five TRACKS, no KIND " + no);
            for (int kind = 0; kind < 5; kind++) {
                run.is(3, "cut", 0, kind, 3);
            }
            run.is(2, "comb", 0, 1, 2, 2);
            run.refused(NONE, "cut", 0, no, 2);
            run.refused(NONE, "strip", 0, no);
            run.refused(NONE, "share", 0, 1, no);
            run.refused(NONE, "places", 0, no);
            run.refused(NONE, "read", 0, no, 0);
            run.refused(NONE, "write", 0, no, 0, 1);
            run.refused(NONE, "turn", 0, no, 0, 1);
            run.refused(NONE, "comb", 0, no, 1, 1);
            run.refused(NONE, "comb", 1, no, 1, 1);
            run.end();
        }
    }

    private static void pinsAre0And1() {
        Run run = run("PINS (0, 1)");
        run.is(1, "cut", 0, 0, 1);
        for (int v : new int[] {1, -1, 2, 256, 65536, MIN, MAX}) {
            run.is(0, "write", 0, 0, 0, v);
            run.is(1, "read", 0, 0, 0);
        }
        run.is(0, "turn", 0, 0, 0, 1);
        run.is(0, "read", 0, 0, 0);
        run.is(0, "turn", 0, 0, 0, 1);
        run.is(1, "read", 0, 0, 0);
        run.is(0, "write", 0, 0, 0, 0);
        run.is(0, "read", 0, 0, 0);
        run.end();
    }

    private static void writesAndReads(Run run, int kind, int v, int read) {
        run.is(0, "write", 0, kind, 0, v);
        run.is(read, "read", 0, kind, 0);
    }

    private static void signsAre0To65535() {
        Run run = run("SIGNS (0 .. 65535)");
        run.is(1, "cut", 0, 1, 1);
        writesAndReads(run, 1, 0, 0);
        writesAndReads(run, 1, 32767, 32767);
        writesAndReads(run, 1, 32768, 32768);
        writesAndReads(run, 1, 65535, 65535);
        writesAndReads(run, 1, 65536, 0);
        writesAndReads(run, 1, -1, 65535);
        run.is(0, "turn", 0, 1, 0, 1);
        run.is(0, "read", 0, 1, 0);
        run.is(0, "turn", 0, 1, 0, -1);
        run.is(65535, "read", 0, 1, 0);
        run.end();
    }

    private static void lengthsAreOf16Bits() {
        Run run = run("LENGTHS (-32768 .. 32767)");
        run.is(1, "cut", 0, 2, 1);
        writesAndReads(run, 2, -32768, -32768);
        writesAndReads(run, 2, 32767, 32767);
        writesAndReads(run, 2, 32768, -32768);
        writesAndReads(run, 2, -32769, 32767);
        writesAndReads(run, 2, 65535, -1);
        writesAndReads(run, 2, 65536, 0);
        run.end();
    }

    private static void levelsAreOf32Bits() {
        Run run = run("LEVELS (numbers of 32 bits, IEEE 754)");
        run.is(1, "cut", 0, 3, 1);
        writesAndReads(run, 3, 0, 0);
        writesAndReads(run, 3, 8, 0x3f800000);
        writesAndReads(run, 3, -8, 0xbf800000);
        writesAndReads(run, 3, 1, 0x3e000000);
        writesAndReads(run, 3, 8000000, 0x49742400);
        writesAndReads(run, 3, -8000000, 0xc9742400);
        run.end();
    }

    private static void bendsAreOf8Bits() {
        Run run = run("BENDS (-128 .. 127)");
        run.is(1, "cut", 0, 4, 1);
        writesAndReads(run, 4, -128, -128);
        writesAndReads(run, 4, 127, 127);
        writesAndReads(run, 4, 128, -128);
        writesAndReads(run, 4, -129, 127);
        writesAndReads(run, 4, 255, -1);
        writesAndReads(run, 4, 256, 0);
        run.end();
    }

    private static void aTrackLacksAtFirst() {
        Run run = run("A TRACK LACKS (at first)");
        for (int drum = 0; drum <= 7; drum += 7) {
            for (int kind = 0; kind < 5; kind++) {
                run.refused(LACKING, "places", drum, kind);
                run.refused(LACKING, "strip", drum, kind);
                run.refused(LACKING, "share", drum, 3, kind);
                run.refused(LACKING, "read", drum, kind, 0);
                run.refused(LACKING, "write", drum, kind, 0, 1);
                run.refused(LACKING, "turn", drum, kind, 0, 1);
            }
        }
        run.end();
    }

    private static void aTrackHas0To300Places() {
        for (int kind = 0; kind < 5; kind++) {
            Run run = run("or has 0 .. 300 PLACES, of KIND " + kind);
            for (int n : new int[] {0, 1, 2, 299, 300}) {
                run.is(n, "cut", 0, kind, n);
                run.is(n, "places", 0, kind);
            }
            for (int n : new int[] {-1, 301, MIN, MAX}) {
                run.refused(SIZE, "cut", 0, kind, n);
            }
            run.is(300, "places", 0, kind);
            run.end();
        }
    }

    private static void placesAreNumberedFrom0On() {
        for (int kind = 0; kind < 5; kind++) {
            for (int n : new int[] {1, 2, 300}) {
                Run run = run("PLACES, numbered from 0 on, " + n + " of KIND " + kind);
                int one = kind == 3 ? bits(0.125f) : 1;
                run.is(n, "cut", 0, kind, n);
                run.is(0, "write", 0, kind, n - 1, 1);
                run.is(n == 1 ? one : 0, "read", 0, kind, 0);
                run.is(one, "read", 0, kind, n - 1);
                run.is(0, "write", 0, kind, 0, 1);
                run.is(0, "turn", 0, kind, n - 1, 0);
                for (int no : new int[] {-1, n, MIN, MAX}) {
                    run.refused(BEYOND, "read", 0, kind, no);
                    run.refused(BEYOND, "write", 0, kind, no, 1);
                    run.refused(BEYOND, "turn", 0, kind, no, 1);
                }
                run.end();
            }
        }
    }

    private static void aTrackOfNoPlacesDoesNotLack() {
        for (int kind = 0; kind < 5; kind++) {
            Run run = run("0 PLACES are not LACKING, of KIND " + kind);
            run.is(0, "cut", 0, kind, 0);
            run.is(0, "places", 0, kind);
            run.refused(BEYOND, "read", 0, kind, 0);
            run.refused(BEYOND, "read", 0, kind, -1);
            run.refused(BEYOND, "write", 0, kind, 0, 1);
            run.refused(BEYOND, "turn", 0, kind, 0, 1);
            run.is(0, "share", 0, 1, kind);
            run.is(0, "strip", 0, kind);
            run.refused(LACKING, "places", 0, kind);
            run.is(0, "places", 1, kind);
            run.end();
        }
    }

    private static void drumsHaveTheVerySameTrack() {
        for (int kind = 0; kind < 5; kind++) {
            Run run = run("what is written there, is so in all drums, of KIND " + kind);
            int one = kind == 3 ? bits(0.125f) : 1;
            run.is(2, "cut", 0, kind, 2);
            for (int drum = 1; drum < 8; drum++) {
                run.is(2, "share", drum - 1, drum, kind);
            }
            run.is(0, "write", 7, kind, 1, 1);
            for (int drum = 0; drum < 8; drum++) {
                run.is(one, "read", drum, kind, 1);
                run.is(0, "read", drum, kind, 0);
            }
            run.end();
        }
    }

    private static void teethHaveTheVerySameTrack() {
        for (int kind = 0; kind < 5; kind++) {
            Run run = run("what is written there, is so in all TEETH, of KIND " + kind);
            int one = kind == 3 ? bits(0.125f) : 1;
            run.is(2, "comb", 0, kind, 2, 2);
            run.is(2, "comb", 3, kind, 2, 2);
            run.is(2, "fit", 0, 0, 0);
            run.is(2, "hang", 0, 1, 0);
            run.is(2, "hang", 3, 1, 0);
            run.is(0, "set", 3, 1, 0, 1);
            run.is(one, "cell", 0, 0, 0);
            run.is(one, "cell", 0, 1, 0);
            run.is(one, "cell", 3, 1, 0);
            run.is(one, "read", 0, kind, 0);
            run.is(0, "cell", 3, 0, 0);
            run.end();
        }
    }

    private static void combsAre0To3() {
        Run all = run("COMBS 0 .. 3");
        for (int c = 0; c < 4; c++) {
            all.is(c, "comb", c, c, c, 5);
        }
        for (int c = 0; c < 4; c++) {
            all.is(c, "about", c, 0);
            all.is(c, "about", c, 1);
        }
        all.end();
        for (int no : new int[] {-1, 4, MIN, MAX}) {
            Run run = run("COMBS 0 .. 3, not " + no);
            run.is(1, "cut", 0, 1, 1);
            run.is(1, "comb", 0, 1, 1, 1);
            run.is(1, "comb", 3, 1, 1, 1);
            run.refused(NONE, "comb", no, 1, 1, 1);
            refusesEachCallOnComb(run, no);
            run.end();
        }
    }

    private static void refusesEachCallOnComb(Run run, int c) {
        run.refused(NONE, "drop", c);
        run.refused(NONE, "about", c, 0);
        run.refused(NONE, "about", c, 3);
        run.refused(NONE, "loosen", c, 0);
        run.refused(NONE, "hang", c, 0, 0);
        run.refused(NONE, "fit", c, 0, 0);
        run.refused(NONE, "cell", c, 0, 0);
        run.refused(NONE, "set", c, 0, 0, 1);
        run.refused(NONE, "twist", c, 0, 0, 1);
    }

    private static void combsAreNoneAtFirst() {
        Run run = run("COMBS, none at first");
        run.is(1, "cut", 0, 1, 1);
        for (int c = 0; c < 4; c++) {
            refusesEachCallOnComb(run, c);
        }
        run.end();
    }

    private static void combsHave0To40Teeth() {
        for (int teeth : new int[] {0, 1, 40}) {
            Run run = run("0 .. 40 TEETH, here " + teeth);
            run.is(1, "cut", 0, 1, 1);
            run.is(teeth, "comb", 1, 1, teeth, 1);
            if (teeth > 0) {
                run.is(0, "set", 1, teeth - 1, 0, 7);
                run.is(7, "cell", 1, teeth - 1, 0);
                run.is(teeth == 1 ? 7 : 0, "cell", 1, 0, 0);
            }
            for (int no : new int[] {-1, teeth, MIN, MAX}) {
                run.refused(NONE, "loosen", 1, no);
                run.refused(NONE, "hang", 1, no, 0);
                run.refused(NONE, "fit", 1, no, 0);
                run.refused(NONE, "cell", 1, no, 0);
                run.refused(NONE, "set", 1, no, 0, 1);
                run.refused(NONE, "twist", 1, no, 0, 1);
            }
            run.end();
        }
    }

    private static void teethAreOfTheCombsKind() {
        int[] read = {1, 65535, -1, bits(-0.125f), -1};
        for (int kind = 0; kind < 5; kind++) {
            Run run = run("a TRACK of that KIND, here " + kind);
            run.is(1, "comb", 0, kind, 1, 1);
            run.is(0, "set", 0, 0, 0, -1);
            run.is(read[kind], "cell", 0, 0, 0);
            run.is(1, "fit", 0, 0, 0);
            run.is(read[kind], "read", 0, kind, 0);
            run.refused(LACKING, "places", 0, (kind + 1) % 5);
            run.end();
        }
    }

    private static void noneComesFirst() {
        Run run = run("the first of these that holds: NONE before LACKING, BEYOND, BOUND");
        run.is(1, "comb", 0, 3, 1, 1);
        run.is(1, "loosen", 0, 0);
        run.is(1, "cut", 1, 3, 1);
        run.refused(NONE, "strip", 8, 3);
        run.refused(NONE, "share", 0, 8, 3);
        run.refused(NONE, "share", 0, 1, 5);
        run.refused(NONE, "places", 0, 5);
        run.refused(NONE, "read", 8, 3, 1);
        run.refused(NONE, "read", 1, 5, 1);
        run.refused(NONE, "write", 8, 3, 1, 8000001);
        run.refused(NONE, "write", 1, 5, 1, 8000001);
        run.refused(NONE, "turn", 8, 3, 1, 4001);
        run.refused(NONE, "turn", 1, 5, 1, 4001);
        run.refused(NONE, "loosen", 0, 1);
        run.refused(NONE, "hang", 0, 1, 0);
        run.refused(NONE, "hang", 1, 0, 0);
        run.refused(NONE, "fit", 0, 0, 8);
        run.refused(NONE, "fit", 0, 1, 0);
        run.refused(NONE, "cell", 0, 1, 1);
        run.refused(NONE, "cell", 1, 0, 1);
        run.refused(NONE, "set", 0, 1, 1, 8000001);
        run.refused(NONE, "set", 1, 0, 1, 8000001);
        run.refused(NONE, "twist", 0, 1, 1, 4001);
        run.refused(NONE, "twist", 1, 0, 1, 4001);
        run.end();
    }

    private static void lackingComesBeforeBeyondAndBound() {
        Run run = run("the first of these that holds: LACKING before BEYOND, BOUND");
        run.is(1, "comb", 0, 3, 1, 1);
        run.is(1, "loosen", 0, 0);
        for (int k : new int[] {-1, 0, 300, MIN, MAX}) {
            run.refused(LACKING, "read", 0, 3, k);
            run.refused(LACKING, "write", 0, 3, k, 8000001);
            run.refused(LACKING, "turn", 0, 3, k, -4001);
            run.refused(LACKING, "cell", 0, 0, k);
            run.refused(LACKING, "set", 0, 0, k, -8000001);
            run.refused(LACKING, "twist", 0, 0, k, 4001);
        }
        run.end();
    }

    private static void beyondComesBeforeBound() {
        Run run = run("the first of these that holds: BEYOND before BOUND");
        run.is(1, "comb", 0, 3, 1, 1);
        run.is(1, "fit", 0, 0, 0);
        for (int k : new int[] {-1, 1, MIN, MAX}) {
            run.refused(BEYOND, "write", 0, 3, k, 8000001);
            run.refused(BEYOND, "turn", 0, 3, k, -4001);
            run.refused(BEYOND, "set", 0, 0, k, -8000001);
            run.refused(BEYOND, "twist", 0, 0, k, 4001);
        }
        run.refused(BOUND, "write", 0, 3, 0, 8000001);
        run.refused(BOUND, "turn", 0, 3, 0, -4001);
        run.refused(BOUND, "set", 0, 0, 0, -8000001);
        run.refused(BOUND, "twist", 0, 0, 0, 4001);
        run.end();
    }

    private static void noneComesBeforeSize() {
        Run run = run("the first of these that holds: NONE before SIZE");
        run.refused(NONE, "cut", 8, 0, 301);
        run.refused(NONE, "cut", 0, 5, -1);
        run.refused(NONE, "head", 8, 301);
        run.refused(NONE, "play", 8, 21);
        run.refused(NONE, "comb", 4, 0, 41, 0);
        run.refused(NONE, "comb", 4, 0, 0, -1);
        run.refused(NONE, "comb", 0, 5, -1, 0);
        run.refused(NONE, "comb", 0, -1, 0, 41);
        run.refused(SIZE, "cut", 0, 4, 301);
        run.refused(SIZE, "head", 7, 301);
        run.refused(SIZE, "play", 7, 21);
        run.refused(SIZE, "comb", 3, 4, 41, 0);
        run.end();
    }

    private static void readCellAndHeardAnswer0() {
        Run run = run("read(), cell() and heard() answer 0 then; state() tells");
        run.is(1, "comb", 0, 2, 1, 1);
        run.is(0, "set", 0, 0, 0, -5);
        run.is(1, "fit", 0, 0, 0);
        run.is(1, "play", 0, 1);
        run.is(-5, "read", 0, 2, 0);
        run.refused(NONE, "read", 8, 2, 0);
        run.refused(LACKING, "read", 0, 1, 0);
        run.refused(BEYOND, "read", 0, 2, 1);
        run.is(-5, "cell", 0, 0, 0);
        run.refused(NONE, "cell", 0, 1, 0);
        run.refused(BEYOND, "cell", 0, 0, 1);
        run.is(1, "loosen", 0, 0);
        run.refused(LACKING, "cell", 0, 0, 0);
        run.is(-300, "heard", 0, 3);
        run.refused(NONE, "heard", 8, 3);
        run.refused(NONE, "heard", 0, 7);
        run.end();
    }

    /** The dearest calls, as many as an object may get, and the last one is as good as the first. */
    private static void objectsAreUsedFor512Calls() {
        MusicBoxes x = new MusicBoxes();
        boolean[] hasPins = new boolean[8];
        for (int i = 0; i < 102; i++) {
            int drum = i % 8;
            int kind = i % 5;
            hasPins[drum] |= kind == 0;
            due.is("512 calls: comb", x.comb(i % 4, kind, 40, 40), 40);
            due.is("512 calls: cut", x.cut(drum, kind, 300), 300);
            due.is("512 calls: hang", x.hang(i % 4, 39, drum), 300);
            due.is("512 calls: head", x.head(drum, 280), i < 8 ? 0 : 300);
            due.is("512 calls: play", x.play(drum, 20), hasPins[drum] ? 0 : 20);
        }
        due.is("512 calls: the last but one", x.about(101 % 4, 3), 39 * 40 + 300);
        due.is("512 calls: the last", x.heard(101 % 8, 1), 20 * 13);
    }
}
