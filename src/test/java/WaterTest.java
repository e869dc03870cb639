/** Promises 19 and 20: wet, plug. */
public final class WaterTest {
    private static final int NONE = -1, BAD = -2;

    public static void main(String[] args) throws IllegalAccessException {
        Check.run(WaterTest.class);
    }

    /** The WET CELLS of a mine, told as 1 and 0. */
    private static void wetOf(Check check, MineUpside x, String want) {
        for (int cell = 0; cell < want.length(); cell++) {
            check.due("wet(" + cell + ") of " + want, x.wet(cell), want.charAt(cell) - '0');
        }
        check.due("there is no CELL more than " + want, x.wet(want.length()), BAD);
    }

    // ---- promise 19: wet

    @Promise(number = 19, says = "WET are all springs")
    static void allSpringsAreWet(Check check) {
        wetOf(check, Check.mine("w;#;w;.;w", 0), "10111");
        wetOf(check, Check.mine("w#w#w"), "10101");
        wetOf(check, Check.mine("wwwwwww;wwwwwww;wwwwwww;wwwwwww;wwwwwww"), "1".repeat(35));
    }

    @Promise(number = 19, says = "WET are all springs")
    static void withoutSpringsNothingIsWet(Check check) {
        wetOf(check, Check.mine("#.l;.l."), "000000");
    }

    @Promise(number = 19, says = "from what is WET water falls into the next CELL that way, if it is not HELD there")
    static void waterFallsAndGoesNotAside(Check check) {
        wetOf(check, Check.mine(".w.;...;#.#", 0), "010" + "010" + "010");
        wetOf(check, Check.mine("#.#;...;.w.", 3), "010" + "010" + "010");
    }

    @Promise(number = 19, says = "from what is WET water falls into the next CELL that way, if it is not HELD there")
    static void waterFallsAwayFromTheMiddle(Check check) {
        MineUpside x = Check.mine("...;.w.;.w.;...");
        wetOf(check, x, "111" + "010" + "010" + "111");
        x.set(0, 1);
        wetOf(check, x, "000" + "010" + "010" + "111");
        x.set(0, 0);
        wetOf(check, x, "000" + "010" + "010" + "111");
        x.set(0, 3);
        wetOf(check, x, "111" + "010" + "010" + "000");
        x.set(0, 5);
        wetOf(check, x, "111" + "010" + "010" + "000");
    }

    @Promise(number = 19, says = "else into CELLS beside it in its ROW that are no rock")
    static void waterStandsOnAFloor(Check check) {
        wetOf(check, Check.mine("...w#.."), "1111000");
        wetOf(check, Check.mine("..w..;#####", 0), "11111" + "00000");
        wetOf(check, Check.mine("#####;..w..", 2), "00000" + "11111");
    }

    @Promise(number = 19, says = "else into CELLS beside it in its ROW that are no rock")
    static void waterFallsOverAnEdge(Check check) {
        wetOf(check, Check.mine("w..;#..;...", 0), "110" + "010" + "111");
        wetOf(check, Check.mine("..w;..#;#..", 0), "011" + "010" + "011");
    }

    @Promise(number = 19, says = "else into CELLS beside it in its ROW that are no rock")
    static void aRowsEndWetsNotTheNextRow(Check check) {
        wetOf(check, Check.mine(".w;..", 1), "11" + "00");
        wetOf(check, Check.mine("..;w.", 1), "00" + "11");
        wetOf(check, Check.mine("#w;.#", 1), "01" + "00");
        wetOf(check, Check.mine("#.;w#", 1), "00" + "10");
    }

    @Promise(number = 19, says = "ladders hold no water: for it a ladder is as an open CELL")
    static void waterFallsThroughLadders(Check check) {
        wetOf(check, Check.mine("w.;l.;l.;..", 0), "10" + "10" + "10" + "11");
        wetOf(check, Check.mine("..;l.;w.", 3), "11" + "10" + "10");
    }

    @Promise(number = 19, says = "ladders hold no water: for it a ladder is as an open CELL")
    static void waterGoesIntoLaddersBesideIt(Check check) {
        wetOf(check, Check.mine("wl.;#.#;#.#", 0), "110" + "010" + "010");
        wetOf(check, Check.mine("wl.l"), "1111");
    }

    @Promise(number = 19, says = "Whether a CELL is WET: 1, 0. BAD.")
    static void rockIsNotWet(Check check) {
        MineUpside x = Check.mine("#w#;###");
        for (int cell : new int[] {0, 2, 3, 4, 5}) {
            check.due("wet(" + cell + ")", x.wet(cell), 0);
        }
    }

    @Promise(number = 19, says = "Whether a CELL is WET: 1, 0. BAD.")
    static void noSuchCellIsBadToBeWet(Check check) {
        MineUpside x = Check.mine("w...");
        for (int cell : Check.outside(0, 3)) {
            check.due("wet(" + cell + ")", x.wet(cell), BAD);
        }
        check.due("wet(34)", x.wet(34), BAD);
        check.due("wet(0) without CELLS", new MineUpside().wet(0), BAD);
    }

    // ---- promise 20: plug

    private static void plugOf(Check check, MineUpside x, int cell, int number, int first, int second) {
        check.due("plug(" + cell + ", NONE)", x.plug(cell, NONE), number);
        check.due("plug(" + cell + ", 0)", x.plug(cell, 0), first);
        check.due("plug(" + cell + ", 1)", x.plug(cell, 1), second);
    }

    @Promise(number = 20, says = "the fewest CELLS (0 to 2)")
    static void aDryCellNeedsNoPlug(Check check) {
        MineUpside x = Check.mine("#w.;#.l", 0);
        plugOf(check, x, 0, 0, NONE, NONE);
        plugOf(check, x, 2, 0, NONE, NONE);
        MineUpside dry = Check.mine("..l#");
        for (int cell = 0; cell < 4; cell++) {
            plugOf(check, dry, cell, 0, NONE, NONE);
        }
    }

    @Promise(number = 20, says = "the fewest CELLS (0 to 2)")
    static void onePlugIsEnough(Check check) {
        plugOf(check, Check.mine("w.."), 2, 1, 1, NONE);
        plugOf(check, Check.mine("..w"), 0, 1, 1, NONE);
        plugOf(check, Check.mine("w;.;.", 0), 2, 1, 1, NONE);
        plugOf(check, Check.mine(".w;.#", 0), 2, 1, 0, NONE);
        plugOf(check, Check.mine("##w####;##.####;w......", 0), 20, 1, 16, NONE);
    }

    @Promise(number = 20, says = "the fewest CELLS (0 to 2)")
    static void twoPlugsAreNeeded(Check check) {
        plugOf(check, Check.mine("w.l.w"), 2, 2, 1, 3);
        plugOf(check, Check.mine(".w.;.#.;...", 0), 7, 2, 0, 2);
        plugOf(check, Check.mine("ww;..;..", 0), 4, 2, 2, 3);
        plugOf(check, Check.mine("#######;#######;#######;#######;w.....w"), 31, 2, 29, 32);
    }

    @Promise(number = 20, says = "the fewest CELLS (0 to 2)")
    static void threePlugsAreTooMany(Check check) {
        plugOf(check, Check.mine("##w##;##.##;w...w", 0), 12, NONE, NONE, NONE);
        plugOf(check, Check.mine("#####;##.##;w...w", 0), 12, 2, 11, 13);
    }

    @Promise(number = 20, says = "the fewest CELLS (0 to 2)")
    static void onePlugIsFewerThanALesserRowOfTwo(Check check) {
        // Both streams join in CELL 7 over the told CELL; CELLS 3 and 5 would do as well.
        plugOf(check, Check.mine("w#w;.#.;...;#.#", 0), 10, 1, 7, NONE);
    }

    @Promise(number = 20, says = "no springs, no rock, not the told one, made rock")
    static void aSpringIsNotPlugged(Check check) {
        plugOf(check, Check.mine("w."), 1, NONE, NONE, NONE);
        plugOf(check, Check.mine("ww..."), 4, 1, 2, NONE);
    }

    @Promise(number = 20, says = "no springs, no rock, not the told one, made rock")
    static void theToldCellIsNotPlugged(Check check) {
        plugOf(check, Check.mine(".w#"), 0, NONE, NONE, NONE);
        plugOf(check, Check.mine("w#;.#", 0), 2, NONE, NONE, NONE);
    }

    @Promise(number = 20, says = "no springs, no rock, not the told one, made rock")
    static void aSpringIsNotKeptDry(Check check) {
        plugOf(check, Check.mine("w...."), 0, NONE, NONE, NONE);
    }

    @Promise(number = 20, says = "no springs, no rock, not the told one, made rock")
    static void aPlugHoldsWaterAsRockDoes(Check check) {
        // With CELL 4 plugged the water stands on it and goes around it, where it can.
        plugOf(check, Check.mine("#w#;#..;#..", 0), 7, 1, 4, NONE);
        plugOf(check, Check.mine("#w.;#..;#..", 0), 7, 2, 2, 4);
        plugOf(check, Check.mine(".w.;...;...", 0), 7, NONE, NONE, NONE);
    }

    @Promise(number = 20, says = "no springs, no rock, not the told one, made rock")
    static void aLadderIsPlugged(Check check) {
        plugOf(check, Check.mine("wl."), 2, 1, 1, NONE);
        plugOf(check, Check.mine("w;l;.", 0), 2, 1, 1, NONE);
    }

    @Promise(number = 20, says = "by which a told CELL is not WET, of like ones the least row")
    static void theLeastRowOfPlugs(Check check) {
        plugOf(check, Check.mine("w....."), 5, 1, 1, NONE);
        plugOf(check, Check.mine(".....w"), 0, 1, 1, NONE);
        plugOf(check, Check.mine("w.....w"), 3, 2, 1, 4);
        plugOf(check, Check.mine("..w...w"), 4, 2, 3, 5);
    }

    @Promise(number = 20, says = "how many (i = NONE), the i-th (0, 1; NONE); NONE")
    static void ofRockNothingIsPlugged(Check check) {
        plugOf(check, Check.mine("w#"), 1, 0, NONE, NONE);
    }

    @Promise(number = 20, says = "how many (i = NONE), the i-th (0, 1; NONE); NONE. BAD.")
    static void noSuchPlugIsBad(Check check) {
        MineUpside x = Check.mine("w.l.w");
        for (int i : Check.outside(NONE, 1)) {
            check.due("plug(2, " + i + ")", x.plug(2, i), BAD);
        }
    }

    @Promise(number = 20, says = "how many (i = NONE), the i-th (0, 1; NONE); NONE. BAD.")
    static void noSuchCellIsPlugged(Check check) {
        MineUpside x = Check.mine("w...");
        for (int cell : Check.outside(0, 3)) {
            for (int i = NONE; i <= 1; i++) {
                check.due("plug(" + cell + ", " + i + ")", x.plug(cell, i), BAD);
            }
        }
        check.due("plug(0, NONE) without CELLS", new MineUpside().plug(0, NONE), BAD);
    }

    @Promise(number = 20, says = "made rock, by which a told CELL is not WET")
    static void nothingIsPluggedInTruth(Check check) {
        MineUpside x = Check.mine("w..");
        x.plug(2, NONE);
        wetOf(check, x, "111");
        check.due("cell(1, 0)", x.cell(1, 0), 1);
    }
}
