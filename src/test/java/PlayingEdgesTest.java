/** Promises 9 to 12: one test for each sentence, or part of one, that names a boundary. */
public final class PlayingEdgesTest {
    private static final int NONE = MusicBoxes.NONE;
    private static final int SIZE = MusicBoxes.SIZE;
    private static final int MIN = Integer.MIN_VALUE;
    private static final int MAX = Integer.MAX_VALUE;
    private static final int PINS = 0;
    private static final int SIGNS = 1;
    private static final int LENGTHS = 2;
    private static final int LEVELS = 3;
    private static final int BENDS = 4;
    private static final int ONE = Float.floatToRawIntBits(1f);
    private static final Due due = new Due();

    public static void main(String[] args) {
        headAt0AtFirst();
        headWhatItWas();
        headNeedsNoTrack();
        headSize();
        playNTimesAtMost();
        playNone();
        playAsLongAsSomeTrackHasThePlace();
        playTheLongestTrackDecides();
        playNothingThere();
        playBehindTheLast();
        playAtPlace299();
        playATrackThatLacksIsAGap();
        playATrackWithoutThePlaceIsAGap();
        playNoGaps();
        playGapsWithoutANote();
        playANoteIfPinsHave1();
        playPitchAtItsEnds();
        playWeightAtItsEnds();
        playHowManyNotesInThis();
        playSize();
        heardSinceTheBeginning();
        heardWeightsBeyondAnInt();
        heardHighestBelow0();
        heardGreatestBelow0();
        heardGreatestBits();
        heardGreatestOfNeighbours();
        heardFirstOfEqualOnes();
        heardHeadNotOfThePlaying();
        heardWithoutANote();
        heardAnotherWhat();
        quietForgets();
        quietTheHeadStays();
        quietWithoutAnything();
        quietOtherDrums();
        due.end();
    }

    private static Run run(String sentence) {
        return new Run(due, "Promise " + sentence);
    }

    private static int bits(float f) {
        return Float.floatToRawIntBits(f);
    }

    private static void heard(Run run, int drum, long... want) {
        for (int what = 0; what < want.length; what++) {
            run.is(want[what], "heard", drum, what);
        }
    }

    private static void headAt0AtFirst() {
        Run run = run("9: (at 0 at first)");
        for (int drum = 0; drum < 8; drum++) {
            run.is(0, "heard", drum, 6);
            run.is(0, "head", drum, drum);
        }
        run.end();
    }

    private static void headWhatItWas() {
        Run run = run("9: at PLACE k: what it was");
        run.is(3, "cut", 0, SIGNS, 3);
        run.is(0, "head", 0, 1);
        run.is(1, "head", 0, 1);
        run.is(2, "play", 0, 20);
        run.is(3, "head", 0, 0);
        run.is(3, "play", 0, 20);
        run.is(3, "head", 0, 300);
        run.is(300, "head", 0, 0);
        run.is(0, "heard", 0, 6);
        run.is(0, "heard", 1, 6);
        run.end();
    }

    private static void headNeedsNoTrack() {
        Run run = run("9: the HEAD may be where no TRACK has a PLACE");
        run.is(0, "head", 0, 300);
        run.is(2, "cut", 0, SIGNS, 2);
        run.is(300, "head", 0, 2);
        run.is(2, "strip", 0, SIGNS);
        run.is(2, "head", 0, 299);
        run.is(299, "heard", 0, 6);
        run.end();
    }

    private static void headSize() {
        Run run = run("9: SIZE: k is not 0 .. 300");
        run.is(0, "head", 0, 7);
        for (int no : new int[] {-1, 301, 65536, MIN, MAX}) {
            run.refused(SIZE, "head", 0, no);
            run.is(7, "heard", 0, 6);
        }
        run.is(7, "head", 0, 0);
        run.is(0, "head", 0, 300);
        run.is(300, "heard", 0, 6);
        run.end();
    }

    private static void playNTimesAtMost() {
        Run run = run("10: n times at most");
        run.is(60, "cut", 0, SIGNS, 60);
        run.is(1, "play", 0, 1);
        run.is(1, "heard", 0, 1);
        run.is(19, "play", 0, 19);
        run.is(20, "heard", 0, 1);
        run.is(20, "play", 0, 20);
        heard(run, 0, 40, 40, 160, 0, 0, ONE, 40);
        run.is(20, "play", 0, 20);
        heard(run, 0, 60, 60, 240, 0, 0, ONE, 60);
        run.is(0, "play", 0, 20);
        heard(run, 0, 60, 60, 240, 0, 0, ONE, 60);
        run.end();
    }

    private static void playNone() {
        Run run = run("10: n is 0");
        run.is(5, "cut", 0, SIGNS, 5);
        run.is(0, "play", 0, 0);
        heard(run, 0, 0, 0, 0, 0, 0, 0, 0);
        run.is(5, "play", 0, 5);
        run.is(0, "play", 0, 0);
        heard(run, 0, 5, 5, 20, 0, 0, ONE, 5);
        run.end();
    }

    private static void playAsLongAsSomeTrackHasThePlace() {
        for (int kind = 0; kind < 5; kind++) {
            Run run = run("10: as long as some TRACK of it has the PLACE, here KIND " + kind);
            int notes = kind == PINS ? 0 : 3;
            run.is(3, "cut", 0, kind, 3);
            run.is(notes, "play", 0, 20);
            run.is(3, "heard", 0, 1);
            run.is(3, "heard", 0, 6);
            run.is(0, "play", 0, 20);
            run.is(3, "heard", 0, 1);
            run.is(3, "heard", 0, 6);
            run.end();
        }
    }

    private static void playTheLongestTrackDecides() {
        for (int kind = 0; kind < 5; kind++) {
            Run run = run("10: some TRACK, the longest one, here KIND " + kind);
            for (int other = 0; other < 5; other++) {
                int n = other == kind ? 7 : other;
                run.is(n, "cut", 0, other, n);
            }
            run.is(kind == PINS ? 0 : 7, "play", 0, 20);
            run.is(7, "heard", 0, 1);
            run.is(7, "heard", 0, 6);
            run.is(5 * 7 - 7 - (10 - kind), "heard", 0, 2);
            run.end();
        }
    }

    private static void playNothingThere() {
        Run run = run("10: no TRACK has the PLACE");
        run.is(0, "play", 0, 20);
        heard(run, 0, 0, 0, 0, 0, 0, 0, 0);
        for (int kind = 0; kind < 5; kind++) {
            run.is(0, "cut", 0, kind, 0);
        }
        run.is(0, "play", 0, 20);
        heard(run, 0, 0, 0, 0, 0, 0, 0, 0);
        run.is(5, "cut", 0, SIGNS, 5);
        run.is(0, "head", 0, 5);
        run.is(0, "play", 0, 20);
        heard(run, 0, 0, 0, 0, 0, 0, 0, 5);
        run.is(5, "head", 0, 300);
        run.is(0, "play", 0, 20);
        heard(run, 0, 0, 0, 0, 0, 0, 0, 300);
        run.end();
    }

    private static void playBehindTheLast() {
        Run run = run("10: the HEAD stands behind the last one then");
        run.is(5, "cut", 0, SIGNS, 5);
        run.is(0, "head", 0, 3);
        run.is(1, "play", 0, 1);
        run.is(4, "heard", 0, 6);
        run.is(1, "play", 0, 2);
        run.is(5, "heard", 0, 6);
        run.is(7, "cut", 0, SIGNS, 7);
        run.is(2, "play", 0, 20);
        run.is(7, "heard", 0, 6);
        run.end();
    }

    private static void playAtPlace299() {
        for (int kind = 0; kind < 5; kind++) {
            Run run = run("10: the last PLACE that there can be, of KIND " + kind);
            run.is(300, "cut", 0, kind, 300);
            run.is(0, "head", 0, 299);
            run.is(kind == PINS ? 0 : 1, "play", 0, 20);
            run.is(1, "heard", 0, 1);
            run.is(300, "heard", 0, 6);
            run.is(0, "play", 0, 20);
            run.is(1, "heard", 0, 1);
            run.is(300, "heard", 0, 6);
            run.end();
        }
    }

    private static void playATrackThatLacksIsAGap() {
        long[][] want = {
            {0, 1, 4, 0, 0, 0},
            {1, 1, 4, 500, 500, ONE},
            {1, 1, 4, 60 * 500, 60, ONE},
            {1, 1, 4, 60, 60, bits(62.5f)},
            {1, 1, 4, 60 - 12, 60 - 12, ONE}};
        for (int kind = 0; kind < 5; kind++) {
            Run run = run("10: one that LACKS is a GAP, there is KIND " + kind + " alone");
            run.is(1, "cut", 0, kind, 1);
            run.is(0, "write", 0, kind, 0, kind == PINS ? 0 : 500);
            run.is(want[kind][0], "play", 0, 1);
            heard(run, 0, want[kind]);
            run.end();
        }
        for (int lacks = 0; lacks < 5; lacks++) {
            onlyOneLacks(lacks);
        }
    }

    private static void onlyOneLacks(int lacks) {
        Run run = run("10: one that LACKS is a GAP, KIND " + lacks + " alone");
        int[] value = {1, 100, 7, -16, 5};
        int[] gap = {1, 60, 1, 8, 0};
        for (int kind = 0; kind < 5; kind++) {
            if (kind != lacks) {
                run.is(1, "cut", 0, kind, 1);
                run.is(0, "write", 0, kind, 0, value[kind]);
            }
        }
        value[lacks] = gap[lacks];
        int pitch = value[SIGNS] + value[BENDS];
        run.is(1, "play", 0, 1);
        heard(run, 0, 1, 1, 1, pitch * value[LENGTHS], pitch, bits(value[LEVELS] / 8f), 1);
        run.end();
    }

    private static void playATrackWithoutThePlaceIsAGap() {
        for (int shorter = 0; shorter < 5; shorter++) {
            Run run = run("10: or does not have the PLACE, is a GAP, KIND " + shorter);
            int[] value = {1, 100, 7, -16, 5};
            int[] gap = {1, 60, 1, 8, 0};
            for (int kind = 0; kind < 5; kind++) {
                int n = kind == shorter ? 1 : 2;
                run.is(n, "cut", 0, kind, n);
                run.is(0, "write", 0, kind, n - 1, value[kind]);
            }
            value[shorter] = gap[shorter];
            int pitch = value[SIGNS] + value[BENDS];
            run.is(0, "head", 0, 1);
            run.is(1, "play", 0, 20);
            heard(run, 0, 1, 1, 1, pitch * value[LENGTHS], pitch, bits(value[LEVELS] / 8f), 2);
            run.end();
        }
    }

    private static void playNoGaps() {
        Run run = run("10: five TRACKS that have the PLACE, no GAP");
        for (int kind = 0; kind < 5; kind++) {
            run.is(20, "cut", 0, kind, 20);
        }
        run.is(0, "play", 0, 20);
        heard(run, 0, 0, 20, 0, 0, 0, 0, 20);
        run.end();
    }

    private static void playGapsWithoutANote() {
        Run run = run("10: a GAP where there is no NOTE");
        run.is(2, "cut", 0, PINS, 2);
        run.is(0, "play", 0, 20);
        heard(run, 0, 0, 2, 8, 0, 0, 0, 2);
        run.is(1, "cut", 0, LEVELS, 1);
        run.is(2, "head", 0, 0);
        run.is(0, "play", 0, 20);
        heard(run, 0, 0, 4, 8 + 3 + 4, 0, 0, 0, 2);
        run.end();
    }

    private static void playANoteIfPinsHave1() {
        Run run = run("10: a NOTE, if PINS have 1");
        run.is(3, "cut", 0, PINS, 3);
        run.is(4, "cut", 0, SIGNS, 4);
        run.is(0, "write", 0, PINS, 1, MIN);
        run.is(0, "play", 0, 1);
        run.is(1, "play", 0, 1);
        run.is(0, "play", 0, 1);
        run.is(1, "play", 0, 1);
        run.is(0, "play", 0, 1);
        heard(run, 0, 2, 4, 3 * 3 + 4);
        run.end();
    }

    private static void cutOneNote(Run run, int sign, int length, int bend) {
        run.is(1, "cut", 0, SIGNS, 1);
        run.is(1, "cut", 0, LENGTHS, 1);
        run.is(1, "cut", 0, BENDS, 1);
        run.is(0, "write", 0, SIGNS, 0, sign);
        run.is(0, "write", 0, LENGTHS, 0, length);
        run.is(0, "write", 0, BENDS, 0, bend);
    }

    private static void playPitchAtItsEnds() {
        int[][] ends = {{0, -128, -128}, {0, 0, 0}, {127, -128, -1}, {128, -128, 0}, {65535, 127, 65662}, {65535, -128, 65407}};
        for (int[] end : ends) {
            Run run = run("10: its pitch is SIGN and BEND together, " + end[2]);
            cutOneNote(run, end[0], 1, end[1]);
            run.is(1, "play", 0, 1);
            heard(run, 0, 1, 1, 2, end[2], end[2], ONE, 1);
            run.end();
        }
    }

    private static void playWeightAtItsEnds() {
        long[][] ends = {{65535, 32767, 127, 2151546754L}, {65535, -32768, 127, -2151612416L}, {0, -32768, -128, 4194304},
            {0, 32767, -128, -4194176}, {65535, 0, 127, 0}, {128, 32767, -128, 0}};
        for (long[] end : ends) {
            Run run = run("10: its weight the pitch times LENGTH, " + end[3]);
            cutOneNote(run, (int) end[0], (int) end[1], (int) end[2]);
            run.is(1, "play", 0, 1);
            run.is(end[3], "heard", 0, 3);
            run.end();
        }
    }

    private static void playHowManyNotesInThis() {
        Run run = run("10: how many NOTES there were in this");
        run.is(6, "cut", 0, PINS, 6);
        for (int k = 0; k < 4; k++) {
            run.is(0, "write", 0, PINS, k, 1);
        }
        run.is(3, "play", 0, 3);
        run.is(1, "play", 0, 2);
        run.is(0, "play", 0, 20);
        run.is(4, "heard", 0, 0);
        run.is(4, "quiet", 0);
        run.is(6, "head", 0, 3);
        run.is(1, "play", 0, 20);
        run.end();
    }

    private static void playSize() {
        Run run = run("10: SIZE: n is not 0 .. 20");
        run.is(60, "cut", 0, SIGNS, 60);
        for (int no : new int[] {-1, 21, 65536, MIN, MAX}) {
            run.refused(SIZE, "play", 0, no);
            run.refused(SIZE, "play", 1, no);
            run.is(0, "heard", 0, 6);
        }
        run.is(0, "play", 0, 0);
        run.is(20, "play", 0, 20);
        for (int no : new int[] {-1, 21, MIN, MAX}) {
            run.refused(SIZE, "play", 0, no);
        }
        heard(run, 0, 20, 20, 80, 0, 0, ONE, 20);
        run.end();
    }

    private static void heardSinceTheBeginning() {
        Run run = run("11: Of all that the drum played since the beginning");
        run.is(2, "cut", 0, SIGNS, 2);
        run.is(0, "write", 0, SIGNS, 1, 9);
        for (int i = 1; i <= 5; i++) {
            run.is(i == 1 ? 0 : 2, "head", 0, 0);
            run.is(2, "play", 0, 20);
            heard(run, 0, 2 * i, 2 * i, 8 * i, 9 * i, 9, ONE, 2);
        }
        run.is(2, "strip", 0, SIGNS);
        run.is(0, "cut", 0, SIGNS, 0);
        heard(run, 0, 10, 10, 40, 45, 9, ONE, 2);
        run.end();
    }

    private static void heardWeightsBeyondAnInt() {
        Run run = run("11: 3 the weights together, beyond an int");
        cutOneNote(run, 65535, 32767, 127);
        for (int i = 1; i <= 4; i++) {
            run.is(i == 1 ? 0 : 1, "head", 0, 0);
            run.is(1, "play", 0, 1);
            run.is(2151546754L * i, "heard", 0, 3);
        }
        run.is(0, "write", 0, LENGTHS, 0, -32768);
        for (int i = 1; i <= 8; i++) {
            run.is(1, "head", 0, 0);
            run.is(1, "play", 0, 1);
            run.is(2151546754L * 4 - 2151612416L * i, "heard", 0, 3);
        }
        run.end();
    }

    private static void heardHighestBelow0() {
        Run run = run("11: 4 the highest pitch, below 0");
        cutOneNote(run, 0, 1, -128);
        run.is(1, "play", 0, 1);
        run.is(-128, "heard", 0, 4);
        int highest = -128;
        for (int bend : new int[] {-127, -1, -128}) {
            run.is(0, "write", 0, BENDS, 0, bend);
            run.is(1, "head", 0, 0);
            run.is(1, "play", 0, 1);
            highest = Math.max(highest, bend);
            run.is(highest, "heard", 0, 4);
        }
        run.is(0, "write", 0, BENDS, 0, 0);
        run.is(1, "head", 0, 0);
        run.is(1, "play", 0, 1);
        run.is(0, "heard", 0, 4);
        run.end();
    }

    private static void playLevel(Run run, int eighths) {
        run.is(1, "cut", 0, LEVELS, 1);
        run.is(0, "write", 0, LEVELS, 0, eighths);
        run.is(1, "play", 0, 1);
        run.is(1, "head", 0, 0);
    }

    private static void heardGreatestBelow0() {
        Run run = run("11: 5 the greatest LEVEL, below 0");
        int greatest = -8000000;
        for (int eighths : new int[] {-8000000, -7999999, -8, -9, -1, -8000000}) {
            playLevel(run, eighths);
            greatest = Math.max(greatest, eighths);
            run.is(bits(greatest / 8f), "heard", 0, 5);
        }
        playLevel(run, 0);
        run.is(0, "heard", 0, 5);
        playLevel(run, -1);
        run.is(0, "heard", 0, 5);
        run.end();
    }

    private static void heardGreatestBits() {
        Run run = run("11: 5 the 32 bits (as an int) of the greatest LEVEL");
        playLevel(run, -8);
        run.is(0xbf800000, "heard", 0, 5);
        playLevel(run, 8);
        run.is(0x3f800000, "heard", 0, 5);
        playLevel(run, 8000000);
        run.is(0x49742400, "heard", 0, 5);
        playLevel(run, 7999999);
        run.is(0x49742400, "heard", 0, 5);
        run.end();
    }

    /** Levels that differ by the least that there is, around both zeros. */
    private static void heardGreatestOfNeighbours() {
        Run below = run("11: 5 the greatest LEVEL, of neighbours below 0");
        turnToTwoOfTheLeast(below, -8);
        playsAndHears(below, 0x80000002);
        below.is(0, "turn", 0, LEVELS, 0, 2);
        playsAndHears(below, 0x80000001);
        below.is(0, "turn", 0, LEVELS, 0, 1);
        playsAndHears(below, 0x80000000);
        below.end();
        Run above = run("11: 5 the greatest LEVEL, of neighbours above 0");
        turnToTwoOfTheLeast(above, 8);
        above.is(0, "turn", 0, LEVELS, 0, 2);
        playsAndHears(above, 1);
        above.is(0, "turn", 0, LEVELS, 0, 8);
        playsAndHears(above, 2);
        above.is(0, "turn", 0, LEVELS, 0, 2);
        playsAndHears(above, 2);
        above.end();
    }

    private static void turnToTwoOfTheLeast(Run run, int eighths) {
        run.is(1, "cut", 0, LEVELS, 1);
        run.is(0, "write", 0, LEVELS, 0, eighths);
        for (int i = 0; i < 74; i++) {
            run.is(0, "turn", 0, LEVELS, 0, 1);
        }
        run.is(bits(eighths / 8f) & 0x80000000 | 2, "read", 0, LEVELS, 0);
    }

    private static void playsAndHears(Run run, int greatest) {
        run.is(1, "play", 0, 1);
        run.is(1, "head", 0, 0);
        run.is(greatest, "heard", 0, 5);
    }

    private static void heardFirstOfEqualOnes() {
        for (int minus = 0; minus < 2; minus++) {
            Run run = run("11: 5 (the first of equal ones), -0 at PLACE " + minus);
            run.is(2, "cut", 0, LEVELS, 2);
            run.is(0, "turn", 0, LEVELS, minus, -4);
            run.is(0x80000000, "read", 0, LEVELS, minus);
            run.is(2, "play", 0, 2);
            run.is(minus == 0 ? 0x80000000 : 0, "heard", 0, 5);
            run.is(2, "head", 0, 0);
            run.is(2, "play", 0, 2);
            run.is(minus == 0 ? 0x80000000 : 0, "heard", 0, 5);
            run.end();
        }
    }

    private static void heardHeadNotOfThePlaying() {
        Run run = run("11: 6 (not of the playing) where the HEAD is");
        run.is(0, "heard", 0, 6);
        run.is(0, "head", 0, 300);
        run.is(300, "heard", 0, 6);
        run.is(0, "quiet", 0);
        run.is(300, "heard", 0, 6);
        run.is(300, "head", 0, 0);
        heard(run, 0, 0, 0, 0, 0, 0, 0, 0);
        run.end();
    }

    private static void heardWithoutANote() {
        Run run = run("11: 0 for 4, 5 without a NOTE");
        heard(run, 0, 0, 0, 0, 0, 0, 0, 0);
        for (int kind = 0; kind < 5; kind++) {
            run.is(2, "cut", 0, kind, 2);
            run.is(0, "write", 0, kind, 0, kind == PINS ? 0 : 100);
            run.is(0, "write", 0, kind, 1, kind == PINS ? 0 : -100);
        }
        run.is(0, "play", 0, 20);
        heard(run, 0, 0, 2, 0, 0, 0, 0, 2);
        run.end();
    }

    private static void heardAnotherWhat() {
        Run run = run("11: NONE also for another what");
        run.is(2, "cut", 0, SIGNS, 2);
        run.is(2, "play", 0, 20);
        for (int no : new int[] {-1, 7, 8, 65536, MIN, MAX}) {
            run.refused(NONE, "heard", 0, no);
            run.refused(NONE, "heard", 8, no);
        }
        heard(run, 0, 2, 2, 8, 0, 0, ONE, 2);
        run.end();
    }

    private static void quietForgets() {
        Run run = run("12: What was heard of a drum is forgotten: how many NOTES it was");
        cutOneNote(run, 0, 1, -5);
        run.is(1, "cut", 0, LEVELS, 1);
        run.is(0, "write", 0, LEVELS, 0, -8);
        run.is(1, "play", 0, 1);
        heard(run, 0, 1, 1, 1, -5, -5, bits(-1f), 1);
        run.is(1, "quiet", 0);
        heard(run, 0, 0, 0, 0, 0, 0, 0, 1);
        run.is(0, "write", 0, BENDS, 0, -9);
        run.is(0, "write", 0, LEVELS, 0, -80);
        run.is(1, "head", 0, 0);
        run.is(1, "play", 0, 1);
        heard(run, 0, 1, 1, 1, -9, -9, bits(-10f), 1);
        run.end();
    }

    private static void quietTheHeadStays() {
        Run run = run("12: (the HEAD stays)");
        run.is(30, "cut", 0, SIGNS, 30);
        run.is(20, "play", 0, 20);
        run.is(20, "quiet", 0);
        run.is(20, "heard", 0, 6);
        run.is(10, "play", 0, 20);
        run.is(10, "quiet", 0);
        run.is(30, "heard", 0, 6);
        run.end();
    }

    private static void quietWithoutAnything() {
        Run run = run("12: nothing was heard");
        run.is(0, "quiet", 7);
        run.is(2, "cut", 7, PINS, 2);
        run.is(0, "play", 7, 20);
        run.is(0, "quiet", 7);
        heard(run, 7, 0, 0, 0, 0, 0, 0, 2);
        run.is(0, "quiet", 7);
        run.end();
    }

    private static void quietOtherDrums() {
        Run run = run("12: of a drum, and of no other");
        run.is(3, "cut", 0, SIGNS, 3);
        run.is(3, "share", 0, 1, SIGNS);
        run.is(3, "play", 0, 20);
        run.is(3, "play", 1, 20);
        run.is(3, "quiet", 0);
        heard(run, 1, 3, 3, 12, 0, 0, ONE, 3);
        for (int no : new int[] {-1, 8, MIN, MAX}) {
            run.refused(NONE, "quiet", no);
        }
        heard(run, 1, 3, 3, 12, 0, 0, ONE, 3);
        run.end();
    }
}
