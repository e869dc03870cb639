/** Promise 37: digest, of answers written out one by one, and of answers that the calls themselves give. */
public final class DigestTest {
    private static final int NONE = -1, BAD = -2;

    public static void main(String[] args) throws IllegalAccessException {
        Check.run(DigestTest.class);
    }

    private static long digestOf(long... answers) {
        return andEach(17, answers);
    }

    private static long andEach(long h, long... answers) {
        for (long answer : answers) {
            h = 31 * h + answer;
        }
        return h;
    }

    /** The digest out of the answers of the calls that it names: fewer than 400 calls. */
    private static long composed(MineUpside x) {
        long h = 17;
        for (int what = 0; what <= 7; what++) {
            h = andEach(h, x.count(what));
        }
        h = andEach(h, x.fault());
        for (int it = 0; it < x.count(0); it++) {
            h = andEach(h, x.cell(it, 0), x.cell(it, 1), x.cell(it, 2), x.reach(it), x.wet(it), x.way(it, 0),
                    x.next(0, it), x.from(it, 2, NONE), x.from(it, 2, 0));
        }
        for (int it = 0; it < x.count(3); it++) {
            h = andEach(h, x.at(it, 5), x.rests(it, 0), x.rests(it, 1));
        }
        return andEach(h, x.longest(), x.meet(0, 1), x.race(0, 1, 2), x.plug(3, NONE), x.plug(3, 0), x.where(),
                x.hang(), x.joined(), x.like(1), x.flood(5, 3, 0), x.flood(5, 3, 1), x.kicks(7, 0, 9));
    }

    @Promise(number = 37, says = "h is 17; h becomes 31 h and each of")
    static void ofANewObject(Check check) {
        long want = digestOf(0, 0, 0, 0, 0, 0, 0, 0, NONE,
                NONE, BAD, BAD, BAD, BAD, 63, NONE, 0, 0, Check.BAD_LONG, Check.BAD_LONG, BAD);
        check.due("digest()", new MineUpside().digest(), want);
    }

    @Promise(number = 37, says = "count() 0 to 7; fault()")
    static void ofAFault(Check check) {
        MineUpside x = Check.mine("w.;");
        x.thing(0, 0);
        x.thing(1, 0);
        x.plumb(0, 1);
        long want = digestOf(0, 0, 3, 2, 1, 0, 0, 0, 3,
                NONE, NONE, 0,
                NONE, NONE, 0,
                NONE, NONE, BAD, BAD, BAD, 62, NONE, 0, 0, Check.BAD_LONG, Check.BAD_LONG, BAD);
        check.due("digest()", x.digest(), want);
    }

    /**
     * A mine of two ROWS where all falls UP: w.
     *                                        .l
     */
    @Promise(number = 37, says = "of CELLS cell() 0 to 2, reach(), wet(), way(it, 0), next(0, it), from(it, 2, NONE and 0)")
    static void ofAMine(Check check) {
        MineUpside x = Check.mine("w.;.l");
        x.thing(2, 4);
        x.thing(0, 9);
        x.plumb(1, 0);
        long want = digestOf(
                4, 2, 5, 2, 1, 1, 2, 3, -1,
                // Each CELL: cell() 0 to 2, reach, wet, way to 0, next from 0, from: how many, 0.
                3, 1, 1, 4, 1, 0, -1, 2, 0,
                1, 1, 1, 4, 1, 1, 1, 1, 1,
                1, 1, 0, 4, 0, 1, 1, 0, -1,
                2, 1, 1, 4, 0, 2, 1, 1, 3,
                // THINGS: at STEP 5, rests, falls.
                0, 0, 1,
                -1, 0, 0,
                // longest, meet, race, plug: how many, 0, where, hang, joined, like.
                0, 9, 1, 0, -1, 3, 0, 2, 2,
                // flood of CELL 3, above and below, kicks of SEED 7 whose LOTS are 0 2 2 0 2 1 0 2 2.
                0, 1, 1);
        check.due("digest()", x.digest(), want);
    }

    /** One CELL in each of five ROWS, all falls DOWN: a deep fall, a spring over CELL 3. */
    @Promise(number = 37, says = "plug(3, NONE and 0) (as it is told), where(), hang(), joined(), like(1), flood(5, 3)")
    static void ofAColumn(Check check) {
        MineUpside x = Check.mine(".;w;.;.;.", 0);
        long want = digestOf(
                5, 5, 9, 0, 0, 1, 4, 1, -1,
                1, 0, 0, 5, 0, 0, -1, 0, -1,
                3, 0, 0, 4, 1, -1, 1, 0, -1,
                1, 0, 0, 3, 1, -1, 1, 1, 0,
                1, 0, 0, 2, 1, -1, 1, 1, 1,
                1, 0, 1, 1, 1, -1, 1, 3, 2,
                // No THINGS: meet is BAD. CELL 2 keeps CELL 3 dry.
                -1, -2, 1, 1, 2, 63, 2, 2, 0,
                5, 16, 4);
        check.due("digest()", x.digest(), want);
    }

    @Promise(number = 37, says = "meet(0, 1) (as it is told)")
    static void meetIsBadOfFewerThanTwoThings(Check check) {
        MineUpside x = Check.mine("#");
        x.thing(5, 0);
        long want = digestOf(1, 1, 1, 1, 0, 0, 0, 0, -1,
                0, 1, 0, 0, 0, -1, -1, 0, -1,
                -1, -1, 0,
                // No CELL 1, 2 or 3, and CELL 0 is rock: race, plug, flood and kicks are BAD.
                -1, BAD, BAD, BAD, BAD, 63, 0, 0, 0, Check.BAD_LONG, Check.BAD_LONG, BAD);
        check.due("digest()", x.digest(), want);
    }

    @Promise(number = 37, says = "race(0, 1, 2) (as it is told), plug(3, NONE and 0) (as it is told)")
    static void raceAndPlugAreBadOfTooFewCells(Check check) {
        for (String text : new String[] {".", "..", "...", "....", "w", "ww", "www", "wwww"}) {
            MineUpside x = Check.mine(text);
            check.due("race(0, 1, 2) of " + text, x.race(0, 1, 2), text.length() < 3 ? BAD : 1);
            check.holds("plug(3, NONE) of " + text, text.length() > 3 == (x.plug(3, NONE) != BAD));
            check.due("digest() of " + text, x.digest(), composed(x));
        }
    }

    @Promise(number = 37, says = "race(0, 1, 2) (as it is told)")
    static void raceIsWonByEither(Check check) {
        MineUpside first = Check.mine("..;..", 0);
        check.due("race(0, 1, 2)", first.race(0, 1, 2), 0);
        check.due("digest()", first.digest(), composed(first));
        MineUpside second = Check.mine("...");
        check.due("race(0, 1, 2)", second.race(0, 1, 2), 1);
        check.due("digest()", second.digest(), composed(second));
        MineUpside both = Check.mine(".;.;#", 0);
        check.due("race(0, 1, 2)", both.race(0, 1, 2), NONE);
        check.due("digest()", both.digest(), composed(both));
    }

    @Promise(number = 37, says = "flood(5, 3), above, below (as it is told)")
    static void floodIsBadOfTenSprings(Check check) {
        MineUpside nine = Check.mine("wwwww;wwww.");
        check.due("digest() of nine", nine.digest(), composed(nine));
        MineUpside ten = Check.mine("wwwww;wwwww");
        check.due("flood(5, 3, 0)", ten.flood(5, 3, 0), Check.BAD_LONG);
        check.due("digest() of ten", ten.digest(), composed(ten));
    }

    @Promise(number = 37, says = "kicks(7, 0, 9) (as it is told)")
    static void kicksAreBadOfRock(Check check) {
        MineUpside x = Check.mine("#...");
        check.due("kicks(7, 0, 9)", x.kicks(7, 0, 9), BAD);
        check.due("digest()", x.digest(), composed(x));
    }

    @Promise(number = 37, says = "as longs that wrap")
    static void ofTheLargestMine(Check check) {
        MineUpside x = Check.mine("w.....l;.#...l.;..#.l..;...l...;..l...w", 3);
        for (int i = 0; i < 8; i++) {
            x.thing(4 * i, i);
        }
        x.plumb(1, 1);
        x.plumb(4, 0);
        check.due("digest()", x.digest(), composed(x));
    }

    @Promise(number = 37, says = "of THINGS at(it, 5), rests() 0, 1; longest(), meet(0, 1)")
    static void ofThingsFromEachStepOn(Check check) {
        int[] steps = {5, 4, 3, 6, 0, 99, 2, 1};
        for (int things = 1; things <= 8; things++) {
            MineUpside x = Check.mine(".;.;.;.;.", 0);
            for (int i = 0; i < things; i++) {
                x.thing(0, steps[i]);
            }
            check.due("digest() of " + things, x.digest(), composed(x));
        }
    }

    @Promise(number = 37, says = "count() 0 to 7")
    static void findingsAndSheetsAreNoPartOfIt(Check check) {
        MineUpside x = Check.mine("w.;.l");
        long first = x.digest();
        x.lose(0);
        check.due("behind a FINDING", x.digest(), first);
        check.due("count(8)", x.count(8), 1);
        x.sheet(0, 2, 4);
        check.due("behind a SHEET", x.digest(), first);
    }
}
