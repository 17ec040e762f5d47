/** Promises 13 to 22: one test for each sentence, or part of one, that names a boundary. */
public final class CombEdgesTest {
    private static final int NONE = MusicBoxes.NONE;
    private static final int LACKING = MusicBoxes.LACKING;
    private static final int BEYOND = MusicBoxes.BEYOND;
    private static final int SIZE = MusicBoxes.SIZE;
    private static final int BOUND = MusicBoxes.BOUND;
    private static final int MIN = Integer.MIN_VALUE;
    private static final int MAX = Integer.MAX_VALUE;
    private static final int PINS = 0;
    private static final int SIGNS = 1;
    private static final int LENGTHS = 2;
    private static final int LEVELS = 3;
    private static final int BENDS = 4;
    private static final Due due = new Due();

    public static void main(String[] args) {
        combTeethAndPlaces();
        combTracksOfTheirOwn();
        combAll0();
        combInThePlaceOfWhatItWas();
        combOthersKeepTheirTracks();
        combNone();
        combSizeOfTeeth();
        combSizeOfPlaces();
        dropHowManyTeeth();
        dropTwice();
        dropOthersKeepTheirTracks();
        aboutKindAndTeeth();
        aboutHowManyLack();
        aboutHowManyPlaces();
        aboutACombWithoutTeeth();
        aboutAnotherWhat();
        loosenFromNowOn();
        loosenOthersKeepIt();
        loosenLacking();
        loosenNoTooth();
        hangTheVeryTrack();
        hangOfTheCombsKind();
        hangAToothThatLacks();
        hangLackingOfTheDrum();
        hangMoreThan40Places();
        hangNone();
        fitTheVeryTooth();
        fitOfTheCombsKind();
        fitInThePlaceOfWhatItWas();
        fitLackingOfTheTooth();
        fitNone();
        cellAsRead();
        setAsWrite();
        setBound();
        twistAsTurn();
        twistBound();
        stateOfANewObject();
        stateElse0();
        stateAfterRefusalsAs0();
        stateOfNegativeAnswers();
        due.end();
    }

    private static Run run(String sentence) {
        return new Run(due, "Promise " + sentence);
    }

    private static int bits(float f) {
        return Float.floatToRawIntBits(f);
    }

    private static int one(int kind) {
        return kind == LEVELS ? bits(0.125f) : 1;
    }

    private static void combTeethAndPlaces() {
        for (int kind = 0; kind < 5; kind++) {
            Run run = run("13: with so many TEETH, of so many PLACES, of KIND " + kind);
            for (int[] size : new int[][] {{0, 0}, {0, 40}, {40, 0}, {1, 1}, {40, 1}, {1, 40}, {40, 40}}) {
                run.is(size[0], "comb", 3, kind, size[0], size[1]);
                run.is(kind, "about", 3, 0);
                run.is(size[0], "about", 3, 1);
                run.is(0, "about", 3, 2);
                run.is(size[0] * size[1], "about", 3, 3);
                run.refused(NONE, "cell", 3, size[0], 0);
                if (size[0] > 0) {
                    run.refused(BEYOND, "cell", 3, size[0] - 1, size[1]);
                }
            }
            run.is(0, "cell", 3, 39, 39);
            run.end();
        }
    }

    private static void combTracksOfTheirOwn() {
        for (int kind = 0; kind < 5; kind++) {
            Run run = run("13: each a TRACK of its own, of KIND " + kind);
            run.is(40, "comb", 0, kind, 40, 2);
            run.is(40, "comb", 1, kind, 40, 2);
            run.is(0, "set", 0, 20, 1, 1);
            for (int tooth = 0; tooth < 40; tooth++) {
                run.is(tooth == 20 ? one(kind) : 0, "cell", 0, tooth, 1);
                run.is(0, "cell", 1, tooth, 1);
            }
            run.end();
        }
    }

    private static void combAll0() {
        for (int kind = 0; kind < 5; kind++) {
            Run run = run("13: PLACES, all 0, of KIND " + kind);
            run.is(3, "comb", 0, kind, 3, 40);
            for (int tooth = 0; tooth < 3; tooth++) {
                for (int k = 0; k < 40; k++) {
                    run.is(0, "cell", 0, tooth, k);
                }
            }
            run.end();
        }
    }

    private static void combInThePlaceOfWhatItWas() {
        for (int kind = 0; kind < 5; kind++) {
            Run run = run("13: in the place of what it was, of KIND " + kind);
            run.is(2, "comb", 2, kind, 2, 2);
            run.is(0, "set", 2, 1, 1, 1);
            run.is(2, "loosen", 2, 0);
            run.is(2, "comb", 2, kind, 2, 2);
            run.is(0, "about", 2, 2);
            run.is(0, "cell", 2, 1, 1);
            run.is(1, "comb", 2, (kind + 1) % 5, 1, 3);
            run.is((kind + 1) % 5, "about", 2, 0);
            run.is(1, "about", 2, 1);
            run.is(3, "about", 2, 3);
            run.is(0, "comb", 2, kind, 0, 3);
            run.is(0, "about", 2, 1);
            run.end();
        }
    }

    private static void combOthersKeepTheirTracks() {
        for (int kind = 0; kind < 5; kind++) {
            Run run = run("13: in the place of what it was, which drums keep, of KIND " + kind);
            run.is(2, "comb", 0, kind, 2, 2);
            run.is(2, "fit", 0, 1, 5);
            run.is(0, "set", 0, 1, 1, 1);
            run.is(2, "comb", 0, kind, 2, 2);
            run.is(one(kind), "read", 5, kind, 1);
            run.is(0, "set", 0, 1, 0, 1);
            run.is(0, "read", 5, kind, 0);
            run.end();
        }
    }

    private static void combNone() {
        Run run = run("13: NONE: no c (0 .. 3), no KIND");
        run.is(1, "comb", 0, 1, 1, 1);
        for (int no : new int[] {-1, 4, 65536, MIN, MAX}) {
            run.refused(NONE, "comb", no, 0, 1, 1);
            run.refused(NONE, "comb", no, 0, 41, -1);
        }
        for (int no : new int[] {-1, 5, 65536, MIN, MAX}) {
            run.refused(NONE, "comb", 0, no, 2, 2);
            run.refused(NONE, "comb", 0, no, 41, -1);
            run.refused(NONE, "comb", 3, no, 2, 2);
        }
        run.is(1, "about", 0, 0);
        run.end();
    }

    private static void combSizeOfTeeth() {
        Run run = run("13: SIZE: teeth are not 0 .. 40");
        run.is(2, "comb", 0, SIGNS, 2, 2);
        run.is(0, "set", 0, 1, 1, 5);
        for (int no : new int[] {-1, 41, 300, 65536, MIN, MAX}) {
            run.refused(SIZE, "comb", 0, BENDS, no, 0);
            run.refused(SIZE, "comb", 0, BENDS, no, 40);
            run.refused(SIZE, "comb", 1, BENDS, no, 1);
            run.refused(NONE, "about", 1, 0);
            run.is(5, "cell", 0, 1, 1);
        }
        run.is(40, "comb", 0, BENDS, 40, 0);
        run.is(0, "comb", 0, BENDS, 0, 0);
        run.end();
    }

    private static void combSizeOfPlaces() {
        Run run = run("13: SIZE: places are not 0 .. 40");
        run.is(2, "comb", 0, SIGNS, 2, 2);
        run.is(0, "set", 0, 1, 1, 5);
        for (int no : new int[] {-1, 41, 300, 65536, MIN, MAX}) {
            run.refused(SIZE, "comb", 0, BENDS, 0, no);
            run.refused(SIZE, "comb", 0, BENDS, 40, no);
            run.refused(SIZE, "comb", 1, BENDS, 1, no);
            run.refused(SIZE, "comb", 1, BENDS, no, no);
            run.is(5, "cell", 0, 1, 1);
        }
        run.is(1, "comb", 0, BENDS, 1, 40);
        run.is(1, "comb", 0, BENDS, 1, 0);
        run.end();
    }

    private static void dropHowManyTeeth() {
        Run run = run("14: how many TEETH it had");
        for (int teeth : new int[] {0, 1, 40}) {
            for (int c = 0; c < 4; c++) {
                run.is(teeth, "comb", c, c, teeth, 3);
                run.is(teeth, "drop", c);
            }
        }
        run.is(2, "comb", 0, SIGNS, 2, 3);
        run.is(3, "loosen", 0, 0);
        run.is(3, "loosen", 0, 1);
        run.is(2, "drop", 0);
        run.end();
    }

    private static void dropTwice() {
        Run run = run("14: There is no COMB c any more");
        run.refused(NONE, "drop", 1);
        run.is(1, "cut", 0, SIGNS, 1);
        run.is(2, "comb", 0, SIGNS, 2, 2);
        run.is(2, "comb", 1, SIGNS, 2, 2);
        run.is(2, "drop", 1);
        run.refused(NONE, "drop", 1);
        run.refused(NONE, "about", 1, 1);
        run.refused(NONE, "loosen", 1, 0);
        run.refused(NONE, "hang", 1, 0, 0);
        run.refused(NONE, "fit", 1, 0, 0);
        run.refused(NONE, "cell", 1, 0, 0);
        run.refused(NONE, "set", 1, 0, 0, 1);
        run.refused(NONE, "twist", 1, 0, 0, 1);
        run.is(2, "about", 0, 1);
        run.is(0, "comb", 1, SIGNS, 0, 0);
        run.is(0, "drop", 1);
        run.refused(NONE, "drop", 1);
        for (int no : new int[] {-1, 4, MIN, MAX}) {
            run.refused(NONE, "drop", no);
        }
        run.end();
    }

    private static void dropOthersKeepTheirTracks() {
        for (int kind = 0; kind < 5; kind++) {
            Run run = run("14: There is no COMB, but its TRACKS elsewhere, of KIND " + kind);
            run.is(1, "comb", 0, kind, 1, 2);
            run.is(1, "comb", 1, kind, 1, 1);
            run.is(2, "fit", 0, 0, 0);
            run.is(2, "hang", 1, 0, 0);
            run.is(0, "set", 0, 0, 1, 1);
            run.is(1, "drop", 0);
            run.is(one(kind), "read", 0, kind, 1);
            run.is(one(kind), "cell", 1, 0, 1);
            run.end();
        }
    }

    private static void aboutKindAndTeeth() {
        Run run = run("15: what 0 its KIND, 1 how many TEETH");
        for (int kind = 0; kind < 5; kind++) {
            for (int teeth : new int[] {0, 1, 40}) {
                run.is(teeth, "comb", 0, kind, teeth, 40);
                run.is(kind, "about", 0, 0);
                run.is(teeth, "about", 0, 1);
            }
        }
        run.end();
    }

    private static void aboutHowManyLack() {
        Run run = run("15: 2 how many of these LACK");
        run.is(40, "comb", 0, SIGNS, 40, 0);
        run.is(0, "about", 0, 2);
        for (int tooth = 0; tooth < 40; tooth++) {
            run.is(0, "loosen", 0, tooth);
            run.is(tooth + 1, "about", 0, 2);
        }
        run.is(40, "about", 0, 1);
        run.is(0, "cut", 0, SIGNS, 0);
        run.is(0, "hang", 0, 39, 0);
        run.is(39, "about", 0, 2);
        run.end();
    }

    private static void aboutHowManyPlaces() {
        Run run = run("15: 3 how many PLACES all others have");
        run.is(40, "comb", 0, SIGNS, 40, 40);
        run.is(1600, "about", 0, 3);
        run.is(40, "loosen", 0, 0);
        run.is(1560, "about", 0, 3);
        run.is(300, "cut", 0, SIGNS, 300);
        for (int tooth = 0; tooth < 40; tooth++) {
            run.is(300, "hang", 0, tooth, 0);
        }
        run.is(12000, "about", 0, 3);
        run.is(0, "about", 0, 2);
        for (int tooth = 0; tooth < 40; tooth++) {
            run.is(300, "loosen", 0, tooth);
        }
        run.is(0, "about", 0, 3);
        run.is(40, "about", 0, 2);
        run.end();
    }

    private static void aboutACombWithoutTeeth() {
        Run run = run("15: a COMB of 0 TEETH");
        run.is(0, "comb", 3, BENDS, 0, 40);
        run.is(BENDS, "about", 3, 0);
        run.is(0, "about", 3, 1);
        run.is(0, "about", 3, 2);
        run.is(0, "about", 3, 3);
        run.end();
    }

    private static void aboutAnotherWhat() {
        Run run = run("15: NONE also for another what");
        run.is(2, "comb", 0, SIGNS, 2, 2);
        for (int no : new int[] {-1, 4, 5, 65536, MIN, MAX}) {
            run.refused(NONE, "about", 0, no);
            run.refused(NONE, "about", 1, no);
            run.refused(NONE, "about", 4, no);
        }
        run.refused(NONE, "about", 1, 0);
        run.end();
    }

    private static void loosenFromNowOn() {
        for (int kind = 0; kind < 5; kind++) {
            Run run = run("16: A tooth LACKS from now on, of KIND " + kind);
            for (int places : new int[] {0, 1, 40}) {
                run.is(3, "comb", 0, kind, 3, places);
                run.is(places, "loosen", 0, 2);
                run.refused(LACKING, "loosen", 0, 2);
                run.refused(LACKING, "cell", 0, 2, 0);
                run.refused(LACKING, "set", 0, 2, 0, 1);
                run.refused(LACKING, "twist", 0, 2, 0, 1);
                run.refused(LACKING, "fit", 0, 2, 0);
                run.is(1, "about", 0, 2);
                run.is(2 * places, "about", 0, 3);
            }
            run.end();
        }
    }

    private static void loosenOthersKeepIt() {
        for (int kind = 0; kind < 5; kind++) {
            Run run = run("16: A tooth, and no other that has that TRACK, of KIND " + kind);
            run.is(2, "comb", 0, kind, 2, 2);
            run.is(2, "fit", 0, 0, 0);
            run.is(2, "hang", 0, 1, 0);
            run.is(0, "set", 0, 0, 1, 1);
            run.is(2, "loosen", 0, 0);
            run.is(one(kind), "cell", 0, 1, 1);
            run.is(one(kind), "read", 0, kind, 1);
            run.end();
        }
    }

    private static void loosenLacking() {
        Run run = run("16: LACKING");
        run.is(2, "comb", 0, SIGNS, 2, 2);
        run.is(2, "loosen", 0, 0);
        run.refused(LACKING, "loosen", 0, 0);
        run.refused(LACKING, "loosen", 0, 0);
        run.is(2, "loosen", 0, 1);
        run.refused(LACKING, "loosen", 0, 1);
        run.end();
    }

    private static void loosenNoTooth() {
        Run run = run("16: no such tooth");
        run.is(0, "comb", 0, SIGNS, 0, 2);
        run.is(1, "comb", 1, SIGNS, 1, 2);
        run.is(40, "comb", 2, SIGNS, 40, 2);
        for (int no : new int[] {-1, 40, 41, MIN, MAX}) {
            run.refused(NONE, "loosen", 0, no);
            run.refused(NONE, "loosen", 1, no);
            run.refused(NONE, "loosen", 2, no);
            run.refused(NONE, "loosen", 3, no);
        }
        run.refused(NONE, "loosen", 0, 0);
        run.refused(NONE, "loosen", 1, 1);
        run.is(2, "loosen", 2, 39);
        run.end();
    }

    private static void hangTheVeryTrack() {
        for (int kind = 0; kind < 5; kind++) {
            for (int n : new int[] {0, 1, 300}) {
                Run run = run("17: the very TRACK, " + n + " PLACES of KIND " + kind);
                run.is(40, "comb", 0, kind, 40, 2);
                run.is(n, "cut", 7, kind, n);
                run.is(n, "hang", 0, 39, 7);
                run.refused(BEYOND, "cell", 0, 39, n);
                run.is(39 * 2 + n, "about", 0, 3);
                if (n > 0) {
                    run.is(0, "set", 0, 39, n - 1, 1);
                    run.is(one(kind), "read", 7, kind, n - 1);
                    run.is(0, "write", 7, kind, n - 1, 0);
                    run.is(0, "cell", 0, 39, n - 1);
                }
                run.end();
            }
        }
    }

    private static void hangOfTheCombsKind() {
        for (int kind = 0; kind < 5; kind++) {
            Run run = run("17: that a drum has of the COMB's KIND, " + kind);
            run.is(1, "comb", 0, kind, 1, 1);
            for (int other = 0; other < 5; other++) {
                run.is(10 + other, "cut", 0, other, 10 + other);
            }
            run.is(10 + kind, "hang", 0, 0, 0);
            run.is(10 + kind, "about", 0, 3);
            run.end();
        }
    }

    private static void hangAToothThatLacks() {
        for (int kind = 0; kind < 5; kind++) {
            Run run = run("17: a tooth that LACKS may be hung, of KIND " + kind);
            run.is(2, "comb", 0, kind, 2, 1);
            run.is(1, "loosen", 0, 1);
            run.is(3, "cut", 0, kind, 3);
            run.is(3, "hang", 0, 1, 0);
            run.is(0, "about", 0, 2);
            run.is(4, "about", 0, 3);
            run.end();
        }
    }

    private static void hangLackingOfTheDrum() {
        for (int kind = 0; kind < 5; kind++) {
            Run run = run("17: LACKING (of the drum), of KIND " + kind);
            run.is(2, "comb", 0, kind, 2, 1);
            run.is(0, "set", 0, 0, 0, 1);
            run.is(1, "loosen", 0, 1);
            for (int other = 0; other < 5; other++) {
                if (other != kind) {
                    run.is(3, "cut", 0, other, 3);
                }
            }
            run.refused(LACKING, "hang", 0, 0, 0);
            run.refused(LACKING, "hang", 0, 1, 0);
            run.is(one(kind), "cell", 0, 0, 0);
            run.is(1, "about", 0, 2);
            run.end();
        }
    }

    private static void hangMoreThan40Places() {
        Run run = run("17: a tooth of more PLACES than comb() can make");
        run.is(1, "comb", 0, BENDS, 1, 40);
        run.is(300, "cut", 0, BENDS, 300);
        run.is(300, "hang", 0, 0, 0);
        run.is(300, "strip", 0, BENDS);
        run.is(0, "set", 0, 0, 299, -128);
        run.is(0, "twist", 0, 0, 299, 1);
        run.is(127, "cell", 0, 0, 299);
        run.is(300, "fit", 0, 0, 3);
        run.is(127, "read", 3, BENDS, 299);
        run.is(300, "loosen", 0, 0);
        run.end();
    }

    private static void hangNone() {
        Run run = run("17: no such COMB, tooth, drum");
        run.is(2, "comb", 0, SIGNS, 2, 2);
        run.is(3, "cut", 0, SIGNS, 3);
        for (int no : new int[] {-1, 8, MIN, MAX}) {
            run.refused(NONE, "hang", no, 0, 0);
            run.refused(NONE, "hang", 0, no, 0);
            run.refused(NONE, "hang", 0, 0, no);
            run.refused(NONE, "hang", no, no, no);
        }
        run.refused(NONE, "hang", 1, 0, 0);
        run.refused(NONE, "hang", 4, 0, 0);
        run.refused(NONE, "hang", 0, 2, 0);
        run.end();
    }

    private static void fitTheVeryTooth() {
        for (int kind = 0; kind < 5; kind++) {
            for (int n : new int[] {0, 1, 40}) {
                Run run = run("18: the very tooth, " + n + " PLACES of KIND " + kind);
                run.is(40, "comb", 3, kind, 40, n);
                run.is(n, "fit", 3, 39, 7);
                run.is(n, "places", 7, kind);
                run.is(0, "about", 3, 2);
                run.refused(BEYOND, "write", 7, kind, n, 1);
                if (n > 0) {
                    run.is(0, "write", 7, kind, n - 1, 1);
                    run.is(one(kind), "cell", 3, 39, n - 1);
                    run.is(0, "set", 3, 39, n - 1, 0);
                    run.is(0, "read", 7, kind, n - 1);
                }
                run.end();
            }
        }
    }

    private static void fitOfTheCombsKind() {
        for (int kind = 0; kind < 5; kind++) {
            Run run = run("18: as its TRACK of the COMB's KIND, " + kind);
            run.is(1, "comb", 0, kind, 1, 5);
            run.is(5, "fit", 0, 0, 0);
            for (int other = 0; other < 5; other++) {
                if (other == kind) {
                    run.is(5, "places", 0, other);
                } else {
                    run.refused(LACKING, "places", 0, other);
                }
            }
            run.end();
        }
    }

    private static void fitInThePlaceOfWhatItWas() {
        for (int kind = 0; kind < 5; kind++) {
            Run run = run("18: in the place of what the drum had, which others keep, of KIND " + kind);
            run.is(3, "cut", 0, kind, 3);
            run.is(0, "write", 0, kind, 2, 1);
            run.is(3, "share", 0, 1, kind);
            run.is(1, "comb", 0, kind, 1, 5);
            run.is(5, "fit", 0, 0, 0);
            run.is(5, "places", 0, kind);
            run.is(one(kind), "read", 1, kind, 2);
            run.end();
        }
    }

    private static void fitLackingOfTheTooth() {
        for (int kind = 0; kind < 5; kind++) {
            Run run = run("18: LACKING (of the tooth), of KIND " + kind);
            run.is(2, "comb", 0, kind, 2, 1);
            run.is(1, "loosen", 0, 0);
            run.refused(LACKING, "fit", 0, 0, 0);
            run.refused(LACKING, "places", 0, kind);
            run.is(3, "cut", 0, kind, 3);
            run.is(0, "write", 0, kind, 2, 1);
            run.refused(LACKING, "fit", 0, 0, 0);
            run.is(one(kind), "read", 0, kind, 2);
            run.end();
        }
    }

    private static void fitNone() {
        Run run = run("18: no such COMB, tooth, drum");
        run.is(2, "comb", 0, SIGNS, 2, 2);
        run.is(3, "cut", 0, SIGNS, 3);
        for (int no : new int[] {-1, 8, MIN, MAX}) {
            run.refused(NONE, "fit", no, 0, 0);
            run.refused(NONE, "fit", 0, no, 0);
            run.refused(NONE, "fit", 0, 0, no);
            run.refused(NONE, "fit", no, no, no);
        }
        run.refused(NONE, "fit", 1, 0, 0);
        run.refused(NONE, "fit", 4, 0, 0);
        run.refused(NONE, "fit", 0, 2, 0);
        run.end();
    }

    private static void cellAsRead() {
        for (int kind = 0; kind < 5; kind++) {
            Run run = run("19: at PLACE k of a tooth, as read(), of KIND " + kind);
            for (int n : new int[] {0, 1, 40}) {
                run.is(2, "comb", 0, kind, 2, n);
                if (n > 0) {
                    run.is(0, "set", 0, 1, n - 1, 1);
                    run.is(one(kind), "cell", 0, 1, n - 1);
                    run.is(n == 1 ? one(kind) : 0, "cell", 0, 1, 0);
                }
                for (int no : new int[] {-1, n, MIN, MAX}) {
                    run.refused(BEYOND, "cell", 0, 1, no);
                }
                for (int no : new int[] {-1, 2, MIN, MAX}) {
                    run.refused(NONE, "cell", 0, no, 0);
                }
            }
            run.is(40, "loosen", 0, 1);
            run.refused(LACKING, "cell", 0, 1, 39);
            run.refused(LACKING, "cell", 0, 1, 40);
            run.end();
        }
    }

    private static void setAsWrite() {
        int[] values = {0, 1, -1, 127, 128, -129, 256, 32768, -32769, 65536};
        for (int kind = 0; kind < 5; kind++) {
            Run run = run("20: It gets a value, as write(), of KIND " + kind);
            run.is(2, "comb", 0, kind, 2, 2);
            for (int v : values) {
                int[] want = {v == 0 ? 0 : 1, (char) v, (short) v, bits(v / 8f), (byte) v};
                run.is(0, "set", 0, 1, 1, v);
                run.is(want[kind], "cell", 0, 1, 1);
                run.is(0, "cell", 0, 1, 0);
                run.is(0, "cell", 0, 0, 1);
            }
            for (int no : new int[] {-1, 2, MIN, MAX}) {
                run.refused(BEYOND, "set", 0, 1, no, 1);
                run.refused(NONE, "set", 0, no, 1, 1);
            }
            run.is(2, "loosen", 0, 1);
            run.refused(LACKING, "set", 0, 1, 1, 1);
            run.refused(LACKING, "set", 0, 1, 2, 1);
            run.end();
        }
    }

    private static void setBound() {
        for (int kind = 0; kind < 5; kind++) {
            Run run = run("20: BOUND, as write(), of KIND " + kind);
            run.is(1, "comb", 0, kind, 1, 1);
            run.is(0, "set", 0, 0, 0, 8000000);
            run.is(0, "set", 0, 0, 0, -8000000);
            for (int v : new int[] {8000001, -8000001, MIN, MAX}) {
                if (kind == LEVELS) {
                    run.refused(BOUND, "set", 0, 0, 0, v);
                    run.is(bits(-1000000f), "cell", 0, 0, 0);
                } else {
                    run.is(0, "set", 0, 0, 0, v);
                }
            }
            run.end();
        }
    }

    private static void twistAsTurn() {
        int[] values = {0, 1, -1, 2, 128, -129, 256, 3999, -4000};
        for (int kind = 0; kind < 5; kind++) {
            Run run = run("21: It is another one, as turn(), of KIND " + kind);
            run.is(2, "comb", 0, kind, 2, 2);
            for (int v : values) {
                int[] want = {1 - (v & 1), (char) (5 + v), (short) (5 * v), bits(0.625f * (v / 4f)), (byte) (5 - v)};
                run.is(0, "set", 0, 1, 1, 5);
                run.is(0, "twist", 0, 1, 1, v);
                run.is(want[kind], "cell", 0, 1, 1);
                run.is(0, "cell", 0, 1, 0);
                run.is(0, "cell", 0, 0, 1);
            }
            for (int no : new int[] {-1, 2, MIN, MAX}) {
                run.refused(BEYOND, "twist", 0, 1, no, 1);
                run.refused(NONE, "twist", 0, no, 1, 1);
            }
            run.is(2, "loosen", 0, 1);
            run.refused(LACKING, "twist", 0, 1, 1, 1);
            run.refused(LACKING, "twist", 0, 1, 2, 1);
            run.end();
        }
    }

    private static void twistBound() {
        Run run = run("21: BOUND, as turn()");
        run.is(1, "comb", 0, LEVELS, 1, 1);
        run.is(0, "set", 0, 0, 0, 8);
        for (int v : new int[] {4001, -4001, MIN, MAX}) {
            run.refused(BOUND, "twist", 0, 0, 0, v);
        }
        run.is(0, "twist", 0, 0, 0, -4000);
        run.is(0, "twist", 0, 0, 0, -4000);
        run.is(bits(1000000f), "cell", 0, 0, 0);
        run.refused(BOUND, "twist", 0, 0, 0, 5);
        run.refused(BOUND, "twist", 0, 0, 0, -5);
        run.is(0, "twist", 0, 0, 0, -4);
        run.is(bits(-1000000f), "cell", 0, 0, 0);
        run.refused(BOUND, "twist", 0, 0, 0, 5);
        run.refused(BOUND, "twist", 0, 0, 0, -5);
        for (int kind : new int[] {PINS, SIGNS, LENGTHS, BENDS}) {
            run.is(1, "comb", 1, kind, 1, 1);
            run.is(0, "twist", 1, 0, 0, 4001);
            run.is(0, "twist", 1, 0, 0, MIN);
            run.is(0, "twist", 1, 0, 0, MAX);
        }
        run.end();
    }

    private static void stateOfANewObject() {
        MusicBoxes x = new MusicBoxes();
        due.is("Promise 22: no call yet", x.state(), 0);
        due.is("Promise 22: no call but state() yet", x.state(), 0);
    }

    /** Run asks state() after each call, and twice after a refused one. */
    private static void stateElse0() {
        Run run = run("22: if that is a refusal; else 0");
        run.refused(LACKING, "strip", 0, LEVELS);
        run.is(1, "cut", 0, LEVELS, 1);
        run.refused(BOUND, "write", 0, LEVELS, 0, 8000001);
        run.is(0, "write", 0, LEVELS, 0, 1);
        run.refused(BEYOND, "turn", 0, LEVELS, 1, 1);
        run.is(0, "turn", 0, LEVELS, 0, 1);
        run.refused(SIZE, "cut", 0, LEVELS, 301);
        run.is(1, "places", 0, LEVELS);
        run.refused(NONE, "share", 0, 8, LEVELS);
        run.is(1, "share", 0, 1, LEVELS);
        run.refused(SIZE, "play", 0, 21);
        run.is(0, "play", 0, 0);
        run.refused(SIZE, "head", 0, 301);
        run.is(0, "head", 0, 0);
        run.refused(NONE, "quiet", 8);
        run.is(0, "quiet", 0);
        run.refused(SIZE, "comb", 0, LEVELS, 41, 0);
        run.is(1, "comb", 0, LEVELS, 1, 1);
        run.refused(NONE, "about", 0, 4);
        run.is(0, "about", 0, 2);
        run.refused(LACKING, "hang", 0, 0, 7);
        run.is(1, "hang", 0, 0, 0);
        run.refused(NONE, "fit", 0, 1, 0);
        run.is(1, "fit", 0, 0, 0);
        run.refused(BEYOND, "set", 0, 0, 1, 0);
        run.is(0, "set", 0, 0, 0, 0);
        run.refused(BOUND, "twist", 0, 0, 0, 4001);
        run.is(0, "twist", 0, 0, 0, 1);
        run.refused(NONE, "loosen", 0, 1);
        run.is(1, "loosen", 0, 0);
        run.refused(NONE, "drop", 1);
        run.is(1, "drop", 0);
        run.end();
    }

    private static void stateAfterRefusalsAs0() {
        Run run = run("22: or would have as a refusal");
        run.refused(LACKING, "read", 0, SIGNS, 0);
        run.is(1, "cut", 0, SIGNS, 1);
        run.refused(BEYOND, "read", 0, SIGNS, 1);
        run.is(0, "read", 0, SIGNS, 0);
        run.refused(NONE, "heard", 0, 7);
        run.is(0, "heard", 0, 0);
        run.refused(NONE, "cell", 0, 0, 0);
        run.is(1, "comb", 0, SIGNS, 1, 1);
        run.refused(BEYOND, "cell", 0, 0, 1);
        run.is(0, "cell", 0, 0, 0);
        run.end();
    }

    private static void stateOfNegativeAnswers() {
        Run run = run("22: an answer that is no refusal, though it looks like one");
        run.is(1, "comb", 0, BENDS, 1, 1);
        run.is(1, "fit", 0, 0, 0);
        run.is(1, "cut", 0, SIGNS, 1);
        for (int v = -5; v <= -1; v++) {
            run.is(0, "set", 0, 0, 0, v);
            run.is(v, "cell", 0, 0, 0);
            run.is(v, "read", 0, BENDS, 0);
            run.is(v == -5 ? 0 : 1, "head", 0, 0);
            run.is(1, "play", 0, 1);
            run.is(v, "heard", 0, 3);
            run.is(v, "heard", 0, 4);
            run.is(1, "quiet", 0);
        }
        run.end();
    }
}
