/** Promises 26 to 29: joined, like, flood, kicks. */
public final class ChanceTest {
    private static final int BAD = -2;
    private static final String LARGEST = ".......;.......;.......;.......;.......";

    public static void main(String[] args) throws IllegalAccessException {
        Check.run(ChanceTest.class);
    }

    // ---- promise 26: joined

    @Promise(number = 26, says = "JOINED with itself turned over (the last CELL first): in how many CELLS it is otherwise")
    static void withoutCellsNothingIsOtherwise(Check check) {
        check.due("of a new one", new MineUpside().joined(), 0);
        check.due("with a FAULT", Check.mine("#.;").joined(), 0);
    }

    @Promise(number = 26, says = "JOINED with itself turned over (the last CELL first): in how many CELLS it is otherwise")
    static void theMiddleCellIsAlwaysAlike(Check check) {
        check.due("one CELL", Check.mine("w").joined(), 0);
        check.due("three CELLS", Check.mine("#w#").joined(), 0);
        check.due("three CELLS, both ends otherwise", Check.mine("#w.").joined(), 2);
    }

    @Promise(number = 26, says = "JOINED with itself turned over (the last CELL first): in how many CELLS it is otherwise")
    static void aRowIsTurnedOverToo(Check check) {
        check.due("turned over", Check.mine("#.l;l.#").joined(), 0);
        check.due("not turned over", Check.mine("#.l;#.l").joined(), 4);
        check.due("all otherwise", Check.mine("###;...").joined(), 6);
    }

    @Promise(number = 26, says = "JOINED with itself turned over (the last CELL first): in how many CELLS it is otherwise")
    static void eachKindIsOtherwiseThanEachOther(Check check) {
        String kinds = "#.lw";
        for (int a = 0; a < 4; a++) {
            for (int b = 0; b < 4; b++) {
                String text = "" + kinds.charAt(a) + kinds.charAt(b);
                check.due("joined() of " + text, Check.mine(text).joined(), a == b ? 0 : 2);
            }
        }
    }

    @Promise(number = 26, says = "JOINED with itself turned over (the last CELL first): in how many CELLS it is otherwise")
    static void theLargestMine(Check check) {
        check.due("alike", Check.mine(LARGEST).joined(), 0);
        check.due("all but one otherwise",
                Check.mine("#######;#######;###....;.......;.......").joined(), 34);
    }

    // ---- promise 27: like

    @Promise(number = 27, says = "LIKE of so many STEPS to the side (1 to 6)")
    static void oneToSixStepsToTheSide(Check check) {
        MineUpside x = Check.mine("#.#.#.#;......l");
        int[] want = {6 + 1, 1, 4 + 1, 1, 2 + 1, 1};
        for (int by = 1; by <= 6; by++) {
            check.due("like(" + by + ")", x.like(by), want[by - 1]);
        }
    }

    @Promise(number = 27, says = "LIKE of so many STEPS to the side (1 to 6)")
    static void noSuchNumberOfStepsIsBad(Check check) {
        MineUpside x = Check.mine("#.#.#.#");
        for (int by : Check.outside(1, 6)) {
            check.due("like(" + by + ")", x.like(by), BAD);
            check.due("like(" + by + ") without CELLS", new MineUpside().like(by), BAD);
        }
    }

    @Promise(number = 27, says = "what there is so many CELLS further in its ROW (of those where there are both)")
    static void noCellIsFurtherThanARowsEnd(Check check) {
        MineUpside x = Check.mine("##;..");
        for (int by = 1; by <= 6; by++) {
            check.due("like(" + by + ")", x.like(by), 0);
        }
        check.due("like(1) of one CELL in each ROW", Check.mine("#;.;l;w").like(1), 0);
        MineUpside last = Check.mine("#...;...l");
        check.due("like(3)", last.like(3), 2);
        check.due("like(4)", last.like(4), 0);
    }

    @Promise(number = 27, says = "in how many CELLS there is otherwise what there is so many CELLS further in its ROW")
    static void eachKindIsUnlikeEachOther(Check check) {
        String kinds = "#.lw";
        for (int a = 0; a < 4; a++) {
            for (int b = 0; b < 4; b++) {
                String text = "" + kinds.charAt(a) + kinds.charAt(b);
                check.due("like(1) of " + text, Check.mine(text).like(1), a == b ? 0 : 1);
            }
        }
    }

    @Promise(number = 27, says = "in how many CELLS there is otherwise what there is so many CELLS further in its ROW")
    static void withoutCellsNothingIsUnlike(Check check) {
        check.due("of a new one", new MineUpside().like(1), 0);
        check.due("with a FAULT", Check.mine("#.;").like(1), 0);
    }

    // ---- promise 28: flood

    private static void floodOf(Check check, MineUpside x, int c, int cell, long above, long below) {
        check.due("flood(" + c + ", " + cell + ", 0)", x.flood(c, cell, 0), above);
        check.due("flood(" + c + ", " + cell + ", 1)", x.flood(c, cell, 1), below);
    }

    @Promise(number = 28, says = "FRACTIONS are told in lowest terms, above and below (0 by 1)")
    static void noChanceIs0By1(Check check) {
        MineUpside x = Check.mine("w.#.");
        floodOf(check, x, 0, 0, 0, 1);
        floodOf(check, x, 0, 1, 0, 1);
        floodOf(check, x, 7, 2, 0, 1);
        floodOf(check, x, 16, 3, 0, 1);
        floodOf(check, Check.mine("..", 0), 16, 0, 0, 1);
    }

    @Promise(number = 28, says = "FRACTIONS are told in lowest terms, above and below (0 by 1)")
    static void certaintyIs1By1(Check check) {
        MineUpside x = Check.mine("w.w");
        for (int cell = 0; cell < 3; cell++) {
            floodOf(check, x, 16, cell, 1, 1);
        }
    }

    @Promise(number = 28, says = "each spring flows by c sixteenths (0 to 16)")
    static void oneSpringInLowestTerms(Check check) {
        MineUpside x = Check.mine("w.");
        int[] above = {0, 1, 1, 3, 1, 5, 3, 7, 1, 9, 5, 11, 3, 13, 7, 15, 1};
        int[] below = {1, 16, 8, 16, 4, 16, 8, 16, 2, 16, 8, 16, 4, 16, 8, 16, 1};
        for (int c = 0; c <= 16; c++) {
            floodOf(check, x, c, 1, above[c], below[c]);
        }
    }

    @Promise(number = 28, says = "each spring flows by c sixteenths (0 to 16)")
    static void noSuchNumberOfSixteenthsIsBad(Check check) {
        MineUpside x = Check.mine("w.");
        for (int c : Check.outside(0, 16)) {
            check.due("flood(" + c + ", 0, 0)", x.flood(c, 0, 0), Check.BAD_LONG);
            check.due("flood(" + c + ", 0, 1)", x.flood(c, 0, 1), Check.BAD_LONG);
        }
    }

    @Promise(number = 28, says = "by itself (others are dry, and open): the chance that a CELL is WET")
    static void eachSpringFlowsByItself(Check check) {
        MineUpside x = Check.mine("w.w#.w");
        floodOf(check, x, 8, 4, 1, 2);
        floodOf(check, x, 5, 1, 135, 256);
        floodOf(check, x, 4, 0, 7, 16);
        floodOf(check, x, 12, 0, 15, 16);
    }

    @Promise(number = 28, says = "by itself (others are dry, and open): the chance that a CELL is WET")
    static void aDrySpringIsOpen(Check check) {
        MineUpside x = Check.mine("w;w;.", 0);
        floodOf(check, x, 8, 0, 1, 2);
        floodOf(check, x, 8, 1, 3, 4);
        floodOf(check, x, 8, 2, 3, 4);
        MineUpside beside = Check.mine("w.;wl;##", 0);
        floodOf(check, beside, 8, 3, 3, 4);
        floodOf(check, beside, 8, 1, 0, 1);
    }

    @Promise(number = 28, says = "BAD: also where there are more than 9 springs")
    static void nineSpringsAreNotTooMany(Check check) {
        MineUpside x = Check.mine("wwwww;wwww.", 0);
        check.due("springs", x.count(5), 9);
        // 16 to the 9th is 68719476736, 15 to the 9th is 38443359375.
        floodOf(check, x, 1, 9, 68719476736L - 38443359375L, 68719476736L);
        floodOf(check, x, 15, 9, 68719476735L, 68719476736L);
        floodOf(check, x, 8, 9, 511, 512);
        floodOf(check, x, 16, 9, 1, 1);
        floodOf(check, x, 0, 9, 0, 1);
    }

    @Promise(number = 28, says = "BAD: also where there are more than 9 springs")
    static void tenSpringsAreTooMany(Check check) {
        for (String text : new String[] {"wwwww;wwwww", "wwwww;#####;wwwww", "wwwwwww;wwwwwww;wwwwwww;wwwwwww;wwwwwww"}) {
            MineUpside x = Check.mine(text);
            for (int what = 0; what <= 1; what++) {
                check.due("flood(8, 0, " + what + ") of " + text, x.flood(8, 0, what), Check.BAD_LONG);
                check.due("flood(0, 9, " + what + ") of " + text, x.flood(0, 9, what), Check.BAD_LONG);
            }
        }
    }

    @Promise(number = 28, says = "FLOOD: above, below. BAD")
    static void noSuchCellIsFlooded(Check check) {
        MineUpside x = Check.mine("w.");
        for (int cell : Check.outside(0, 1)) {
            check.due("flood(5, " + cell + ", 0)", x.flood(5, cell, 0), Check.BAD_LONG);
            check.due("flood(5, " + cell + ", 1)", x.flood(5, cell, 1), Check.BAD_LONG);
        }
        check.due("flood(5, 0, 0) without CELLS", new MineUpside().flood(5, 0, 0), Check.BAD_LONG);
    }

    @Promise(number = 28, says = "FLOOD: above, below. BAD")
    static void aFractionHasNoThirdNumber(Check check) {
        MineUpside x = Check.mine("w.");
        for (int what : Check.outside(0, 1)) {
            check.due("flood(5, 1, " + what + ")", x.flood(5, 1, what), Check.BAD_LONG);
        }
    }

    @Promise(number = 28, says = "Where the answer is a long, a refusal -x is the least long and x more")
    static void badIsTheLeastLongAndTwoMore(Check check) {
        check.due("flood(17, 0, 0)", Check.mine("w").flood(17, 0, 0), Long.MIN_VALUE + 2);
    }

    // ---- promise 29: kicks

    /** SEED as it becomes next, from 0 on. */
    private static long seedBehind(long seed) {
        return Math.floorMod(1103515245L * seed + 12345L, 1L << 32);
    }

    /** Where a man is on a floor of so many CELLS whom LOTS have kicked. */
    private static int kicked(int seed, int cell, int n, int wide) {
        long lots = seed;
        int place = cell;
        for (int step = 0; step < n; step++) {
            lots = seedBehind(lots);
            long lot = (lots >> 16) % 3;
            int to = lot == 0 ? place : lot == 1 ? place - 1 : place + 1;
            place = to < 0 || to >= wide ? place : to;
        }
        return place;
    }

    @Promise(number = 29, says = "else a LOT of 3: 0 he stays, 1 he goes into the CELL ahead in its ROW, 2 into that behind")
    static void eachLotOfThree(Check check) {
        // SEED 1 draws 2, SEED 2 draws 1, SEED 9 draws 0.
        MineUpside x = Check.mine("...");
        check.due("behind", x.kicks(1, 1, 1), 2);
        check.due("ahead", x.kicks(2, 1, 1), 0);
        check.due("stays", x.kicks(9, 1, 1), 1);
    }

    @Promise(number = 29, says = "SEED becomes 1103515245 SEED and 12345, as ints that wrap")
    static void seedsWrap(Check check) {
        MineUpside x = Check.mine(".......");
        int[] seeds = {Integer.MIN_VALUE, Integer.MIN_VALUE + 1, -65536, -2, -1, 0, 3, 65535, 65536,
            Integer.MAX_VALUE - 1, Integer.MAX_VALUE};
        for (int seed : seeds) {
            for (int n : new int[] {1, 2, 3, 7, 40}) {
                check.due("kicks(" + seed + ", 3, " + n + ")", x.kicks(seed, 3, n), kicked(seed, 3, n, 7));
            }
        }
    }

    @Promise(number = 29, says = "its upper 16 bits as a number from 0 on, modulo m")
    static void upperBitsAreANumberFrom0On(Check check) {
        MineUpside x = Check.mine("...");
        int below0 = 0;
        for (int seed = 0; seed < 40; seed++) {
            below0 += (int) seedBehind(seed) < 0 ? 1 : 0;
            check.due("kicks(" + seed + ", 1, 1)", x.kicks(seed, 1, 1), kicked(seed, 1, 1, 3));
        }
        check.holds("some SEEDS are below 0", below0 > 10);
    }

    @Promise(number = 29, says = "in each of n STEPS (1 to 40)")
    static void oneToFortySteps(Check check) {
        MineUpside x = Check.mine(".......");
        for (int n = 1; n <= 40; n++) {
            check.due("kicks(5, 3, " + n + ")", x.kicks(5, 3, n), kicked(5, 3, n, 7));
        }
    }

    @Promise(number = 29, says = "in each of n STEPS (1 to 40)")
    static void noSuchNumberOfKicksIsBad(Check check) {
        MineUpside x = Check.mine("..");
        for (int n : Check.outside(1, 40)) {
            check.due("kicks(1, 0, " + n + ")", x.kicks(1, 0, n), BAD);
        }
    }

    @Promise(number = 29, says = "he falls, if he is not HELD")
    static void aFallDrawsNoLot(Check check) {
        MineUpside x = Check.mine("..;..;..", 0);
        check.due("one STEP", x.kicks(1, 0, 1), 2);
        check.due("two STEPS", x.kicks(1, 0, 2), 4);
        check.due("then SEED 1 draws 2", x.kicks(1, 0, 3), 5);
        check.due("SEED 2 draws 1", x.kicks(2, 1, 3), 4);
        x.set(0, 3);
        check.due("UP, then SEED 1 draws 2", x.kicks(1, 4, 3), 1);
    }

    @Promise(number = 29, says = "he falls, if he is not HELD")
    static void heIsKickedOffAnEdgeAndFalls(Check check) {
        MineUpside x = Check.mine("..;#.", 0);
        check.due("kicked", x.kicks(1, 0, 1), 1);
        check.due("fallen", x.kicks(1, 0, 2), 3);
    }

    @Promise(number = 29, says = "he falls, if he is not HELD")
    static void onALadderHeIsHeldAndKicked(Check check) {
        MineUpside x = Check.mine("...;.l.;...", 0);
        check.due("SEED 9 draws 0", x.kicks(9, 1, 2), 4);
        check.due("SEED 1 draws 2", x.kicks(1, 1, 2), 5);
        check.due("SEED 2 draws 1", x.kicks(2, 1, 2), 3);
    }

    @Promise(number = 29, says = "2 into that behind, if that is no rock")
    static void heIsNotKickedIntoRock(Check check) {
        MineUpside x = Check.mine("#.#");
        check.due("behind", x.kicks(1, 1, 1), 1);
        check.due("ahead", x.kicks(2, 1, 1), 1);
        check.due("forty times", x.kicks(Integer.MIN_VALUE, 1, 40), 1);
    }

    @Promise(number = 29, says = "1 he goes into the CELL ahead in its ROW, 2 into that behind")
    static void heIsNotKickedOutOfHisRow(Check check) {
        MineUpside x = Check.mine("..;..", 1);
        check.due("behind the first ROW", x.kicks(1, 1, 1), 1);
        check.due("ahead of the second ROW", x.kicks(2, 2, 1), 2);
        check.due("ahead of the first CELL", x.kicks(2, 0, 1), 0);
        check.due("behind the last CELL", x.kicks(1, 3, 1), 3);
        MineUpside largest = Check.mine(LARGEST, 0);
        check.due("behind CELL 34", largest.kicks(1, 34, 1), 34);
    }

    @Promise(number = 29, says = "KICKS (a CELL that is no rock): the CELL. BAD.")
    static void rockIsBadToKick(Check check) {
        MineUpside x = Check.mine("#.#");
        check.due("kicks(1, 0, 1)", x.kicks(1, 0, 1), BAD);
        check.due("kicks(1, 2, 1)", x.kicks(1, 2, 1), BAD);
    }

    @Promise(number = 29, says = "KICKS (a CELL that is no rock): the CELL. BAD.")
    static void noSuchCellIsKicked(Check check) {
        MineUpside x = Check.mine("..");
        for (int cell : Check.outside(0, 1)) {
            check.due("kicks(1, " + cell + ", 1)", x.kicks(1, cell, 1), BAD);
        }
        check.due("kicks(1, 0, 1) without CELLS", new MineUpside().kicks(1, 0, 1), BAD);
    }
}
