/** Counts the answers of a test, and tells each one that is not as due. */
final class Due {
    private int asked;
    private int wrong;

    void is(String call, long got, long want) {
        asked++;
        if (got != want) {
            wrong++;
            System.out.println(call + " answered " + got + ", due is " + want);
        }
    }

    /** A call that is refused with its reason as the answer. */
    void refused(String call, MusicBoxes x, long got, int why) {
        is(call, got, why);
        is("state() after " + call, x.state(), why);
    }

    /** A call that is refused with the answer 0, and whose reason only state() tells. */
    void refusedAsZero(String call, MusicBoxes x, long got, int why) {
        is(call, got, 0);
        is("state() after " + call, x.state(), why);
    }

    void end() {
        System.out.println(asked + " answers, " + wrong + " not as due");
        if (wrong != 0 || asked == 0) {
            System.exit(1);
        }
    }
}
