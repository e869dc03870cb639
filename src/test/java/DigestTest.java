/** Promise 37: digest, of answers written out one by one. */
public final class DigestTest {
    private static final Check CHECK = new Check("DigestTest");

    public static void main(String[] args) {
        ofNothing();
        ofAMine();
        ofAColumn();
        noFindings();
        CHECK.end();
    }

    private static long digestOf(long... answers) {
        long h = 17;
        for (long answer : answers) {
            h = 31 * h + answer;
        }
        return h;
    }

    private static void ofNothing() {
        long want = digestOf(0, 0, 0, 0, 0, 0, 0, 0, -1,
                -1, -2, -2, -2, -2, 63, -1, 0, 0, Check.BAD_LONG, Check.BAD_LONG, -2);
        CHECK.due("digest of a new object", new MineUpside().digest(), want);
    }

    /**
     * A mine of two ROWS where all falls UP: w.
     *                                        .l
     */
    private static void ofAMine() {
        MineUpside x = Check.mine("w.;.l");
        x.thing(2, 4);
        x.thing(0, 9);
        x.plumb(1, 0);
        long want = digestOf(
                4, 2, 5, 2, 1, 1, 2, 3, -1,
                // Each CELL: cell() 0 to 2, reach, wet, way to 0, next from 0, from: how many, 0.
                3, 1, 1, 4, 1, 0, -1, 2, 0,
                1, 1, 1, 4, 1, 1, 1, 1, 1,
                1, 1, 0, 4, 0, 1, 1, 0, -1,
                2, 1, 1, 4, 0, 2, 1, 1, 3,
                // THINGS: at STEP 5, rests, falls.
                0, 0, 1,
                -1, 0, 0,
                // longest, meet, race, plug: how many, 0, where, hang, joined, like.
                0, 9, 1, 0, -1, 3, 0, 2, 2,
                // flood of CELL 3, above and below, kicks of SEED 7 whose LOTS are 0 2 2 0 2 1 0 2 2.
                0, 1, 1);
        CHECK.due("digest", x.digest(), want);
    }

    /** One CELL in each of five ROWS, all falls DOWN: a deep fall, a spring over CELL 3. */
    private static void ofAColumn() {
        MineUpside x = Check.mine(".;w;.;.;.");
        x.set(0, 0);
        long want = digestOf(
                5, 5, 9, 0, 0, 1, 4, 1, -1,
                1, 0, 0, 5, 0, 0, -1, 0, -1,
                3, 0, 0, 4, 1, -1, 1, 0, -1,
                1, 0, 0, 3, 1, -1, 1, 1, 0,
                1, 0, 0, 2, 1, -1, 1, 1, 1,
                1, 0, 1, 1, 1, -1, 1, 3, 2,
                // No THINGS: meet is BAD. CELL 2 keeps CELL 3 dry.
                -1, -2, 1, 1, 2, 63, 2, 2, 0,
                5, 16, 4);
        CHECK.due("digest of a column", x.digest(), want);
    }

    private static void noFindings() {
        MineUpside x = Check.mine("w.;.l");
        x.lose(0);
        x.lose(1);
        long first = x.digest();
        CHECK.due("digest again", x.digest(), first);
        CHECK.due("FINDING", x.count(8), 1);
        x.sheet(0, 2, 4);
        x.sheet(0, 2, -1);
        CHECK.due("SHEETS and FINDINGS are no part of it", x.digest(), first);
        x.set(1, 3);
        CHECK.due("nothing crosses MIDDLE", x.digest(), first);
        x.set(0, 1);
        CHECK.holds("MIDDLE is a part of it", x.digest() != first);
    }
}
