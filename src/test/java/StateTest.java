/** Promise 22: state() tells the latest refusal, and 0 after every call that was not refused. */
public final class StateTest {
    private static final Due due = new Due();

    public static void main(String[] args) {
        everyCallThatIsDoneClears();
        negativeAnswersAreNoRefusals();
        stateIsNoCallOfItsOwn();
        due.end();
    }

    /** Everything is there, and answers other than 0 wherever it can. */
    private static MusicBoxes full() {
        MusicBoxes x = new MusicBoxes();
        x.comb(0, 1, 2, 2);
        x.set(0, 0, 0, 5);
        x.cut(0, 1, 2);
        x.write(0, 1, 0, 5);
        x.play(0, 1);
        return x;
    }

    private static void done(int which, MusicBoxes x) {
        switch (which) {
            case 0 -> x.cut(0, 1, 2);
            case 1 -> x.strip(0, 1);
            case 2 -> x.share(0, 0, 1);
            case 3 -> x.places(0, 1);
            case 4 -> x.read(0, 1, 0);
            case 5 -> x.write(0, 1, 0, 1);
            case 6 -> x.turn(0, 1, 0, 1);
            case 7 -> x.head(0, 1);
            case 8 -> x.play(0, 1);
            case 9 -> x.heard(0, 0);
            case 10 -> x.quiet(0);
            case 11 -> x.comb(0, 1, 2, 2);
            case 12 -> x.drop(0);
            case 13 -> x.about(0, 1);
            case 14 -> x.loosen(0, 0);
            case 15 -> x.hang(0, 0, 0);
            case 16 -> x.fit(0, 0, 0);
            case 17 -> x.cell(0, 0, 0);
            case 18 -> x.set(0, 0, 0, 1);
            default -> x.twist(0, 0, 0, 1);
        }
    }

    private static void everyCallThatIsDoneClears() {
        for (int which = 0; which < 20; which++) {
            MusicBoxes x = full();
            due.is("22 a refusal", x.head(0, 301), MusicBoxes.SIZE);
            due.is("22 told", x.state(), MusicBoxes.SIZE);
            done(which, x);
            due.is("22 cleared by call " + which, x.state(), 0);
        }
    }

    private static void negativeAnswersAreNoRefusals() {
        MusicBoxes x = full();
        x.cut(0, 2, 1);
        for (int v = -5; v <= -1; v++) {
            x.write(0, 2, 0, v);
            due.is("22 read", x.read(0, 2, 0), v);
            due.is("22 state", x.state(), 0);
        }
    }

    private static void stateIsNoCallOfItsOwn() {
        MusicBoxes x = full();
        due.is("22 done", x.state(), 0);
        due.is("22 refused", x.strip(1, 1), MusicBoxes.LACKING);
        due.is("22 told", x.state(), MusicBoxes.LACKING);
        due.is("22 told again", x.state(), MusicBoxes.LACKING);
        due.is("22 refused", x.read(0, 1, 2), 0);
        due.is("22 told", x.state(), MusicBoxes.BEYOND);
        x.cut(0, 3, 1);
        due.is("22 refused", x.turn(0, 3, 0, 4001), MusicBoxes.BOUND);
        due.is("22 told", x.state(), MusicBoxes.BOUND);
        due.is("22 refused", x.heard(9, 0), 0);
        due.is("22 told", x.state(), MusicBoxes.NONE);
    }
}
