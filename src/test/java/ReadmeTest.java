/** What README.md tells of the class, so that it does not go stale: its example, and its table of the kinds. */
public final class ReadmeTest {
    private static final Due due = new Due();

    public static void main(String[] args) {
        example();
        kinds();
        due.end();
    }

    private static void example() {
        MusicBoxes works = new MusicBoxes();
        works.cut(0, 1, 8);
        works.write(0, 1, 0, 72);
        due.is("notes", works.play(0, 20), 8);
        due.is("highest", works.heard(0, 4), 72);
        works.comb(2, 1, 3, 5);
        works.set(2, 0, 4, 90);
        works.fit(2, 0, 7);
        due.is("sign", works.read(7, 1, 4), 90);
        due.refused("strip(3, 0)", works, works.strip(3, 0), MusicBoxes.LACKING);
    }

    private static void kinds() {
        kind(0, -2, 1, 3, 0);
        kind(1, -2, 65534, 3, 1);
        kind(2, 40000, -25536, 3, -11072);
        kind(3, -12, Float.floatToIntBits(-1.5f), 6, Float.floatToIntBits(-2.25f));
        kind(4, 200, -56, 100, 100);
    }

    private static void kind(int kind, int v, int written, int by, int turned) {
        MusicBoxes works = new MusicBoxes();
        works.cut(0, kind, 1);
        due.is("write of kind " + kind, works.write(0, kind, 0, v), 0);
        due.is("written of kind " + kind, works.read(0, kind, 0), written);
        due.is("turn of kind " + kind, works.turn(0, kind, 0, by), 0);
        due.is("turned of kind " + kind, works.read(0, kind, 0), turned);
    }
}
