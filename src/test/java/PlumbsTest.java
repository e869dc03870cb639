/** Promises 21 to 25: plumb, forget, where, hang, from. */
public final class PlumbsTest {
    private static final int NONE = -1, BAD = -2, FULL = -4;

    public static void main(String[] args) throws IllegalAccessException {
        Check.run(PlumbsTest.class);
    }

    /** A mine with PLUMBS, told as ROW and UP in turn. */
    private static MineUpside hung(String text, int... plumbs) {
        MineUpside x = Check.mine(text);
        for (int i = 0; i + 1 < plumbs.length; i += 2) {
            x.plumb(plumbs[i], plumbs[i + 1]);
        }
        return x;
    }

    // ---- promise 21: plumb

    @Promise(number = 21, says = "PLUMBS, 8 at most")
    static void theEighthPlumbComesAndTheNinthIsFull(Check check) {
        MineUpside x = new MineUpside();
        for (int i = 1; i <= 8; i++) {
            check.due("plumb(4, 1)", x.plumb(4, 1), i);
        }
        check.due("the ninth", x.plumb(4, 0), FULL);
        check.due("PLUMBS", x.count(4), 8);
        check.due("where()", x.where(), 32);
    }

    @Promise(number = 21, says = "PLUMBS, 8 at most: in a ROW (0 to 4) it hung UP (1), or not (0)")
    static void everyRowMayHaveAPlumb(Check check) {
        for (int row = 0; row <= 4; row++) {
            check.due("plumb(" + row + ", 0)", new MineUpside().plumb(row, 0), 1);
            check.due("plumb(" + row + ", 1)", new MineUpside().plumb(row, 1), 1);
        }
    }

    @Promise(number = 21, says = "in a ROW (0 to 4) it hung UP (1), or not (0)")
    static void aPlumbMayHangInARowThatThereIsNot(Check check) {
        MineUpside x = Check.mine("..");
        check.due("plumb(4, 0)", x.plumb(4, 0), 1);
        x.type('x');
        check.due("plumb(4, 0) with a FAULT", x.plumb(4, 0), 2);
    }

    @Promise(number = 21, says = "in a ROW (0 to 4) it hung UP (1), or not (0)")
    static void aPlumbInNoSuchRowIsBad(Check check) {
        MineUpside x = Check.mine(".;.;.;.;.");
        for (int row : Check.outside(0, 4)) {
            check.due("plumb(" + row + ", 0)", x.plumb(row, 0), BAD);
            check.due("plumb(" + row + ", 1)", x.plumb(row, 1), BAD);
        }
        check.due("PLUMBS", x.count(4), 0);
        check.due("where()", x.where(), 63);
    }

    @Promise(number = 21, says = "it hung UP (1), or not (0)")
    static void aPlumbHangsUpOrNot(Check check) {
        MineUpside x = new MineUpside();
        for (int up : Check.outside(0, 1)) {
            check.due("plumb(0, " + up + ")", x.plumb(0, up), BAD);
        }
        check.due("PLUMBS", x.count(4), 0);
        check.due("where()", x.where(), 63);
    }

    @Promise(number = 21, says = "A PLUMB more: how many. BAD; FULL.")
    static void badPlumbsComeAheadOfFull(Check check) {
        MineUpside x = hung("", 0, 1, 0, 1, 0, 1, 0, 1, 0, 1, 0, 1, 0, 1, 0, 1);
        check.due("plumb(5, 0)", x.plumb(5, 0), BAD);
        check.due("plumb(-1, 0)", x.plumb(-1, 0), BAD);
        check.due("plumb(0, 2)", x.plumb(0, 2), BAD);
        check.due("plumb(0, -1)", x.plumb(0, -1), BAD);
    }

    // ---- promise 22: forget

    @Promise(number = 22, says = "All PLUMBS are forgotten: how many")
    static void noPlumbIsForgotten(Check check) {
        MineUpside x = new MineUpside();
        check.due("forget()", x.forget(), 0);
        x.plumb(0, 1);
        x.forget();
        check.due("forget() again", x.forget(), 0);
    }

    @Promise(number = 22, says = "All PLUMBS are forgotten: how many")
    static void eightPlumbsAreForgotten(Check check) {
        MineUpside x = hung("", 0, 1, 0, 1, 0, 1, 0, 1, 0, 1, 0, 1, 0, 1, 0, 0);
        check.due("forget()", x.forget(), 8);
        check.due("PLUMBS", x.count(4), 0);
        check.due("where()", x.where(), 63);
        check.due("plumb(4, 1)", x.plumb(4, 1), 1);
        check.due("where()", x.where(), 32);
    }

    // ---- promise 23: where

    @Promise(number = 23, says = "WHERE the MIDDLE may be (0 to 5)")
    static void withoutPlumbsItMayBeAnywhere(Check check) {
        check.due("where()", new MineUpside().where(), 63);
        check.due("where() with a FAULT", Check.mine("x").where(), 63);
    }

    @Promise(number = 23, says = "so that all PLUMBS come out so, as bits")
    static void onePlumbInEachRow(Check check) {
        int[] up = {62, 60, 56, 48, 32};
        int[] not = {1, 3, 7, 15, 31};
        for (int row = 0; row <= 4; row++) {
            check.due("UP in " + row, hung("", row, 1).where(), up[row]);
            check.due("not UP in " + row, hung("", row, 0).where(), not[row]);
        }
    }

    @Promise(number = 23, says = "so that all PLUMBS come out so, as bits")
    static void twoPlumbsLeaveOnePlace(Check check) {
        for (int middle = 1; middle <= 4; middle++) {
            int where = hung("", middle - 1, 1, middle, 0).where();
            check.due("MIDDLE " + middle, where, 1 << middle);
        }
    }

    @Promise(number = 23, says = "so that all PLUMBS come out so, as bits")
    static void plumbsThatContradictLeaveNoPlace(Check check) {
        check.due("in one ROW", hung("", 2, 1, 2, 0).where(), 0);
        check.due("in two ROWS", hung("", 1, 0, 3, 1).where(), 0);
        check.due("the eighth of them", hung("", 4, 1, 4, 1, 4, 1, 4, 1, 4, 1, 4, 1, 4, 1, 0, 0).where(), 0);
    }

    @Promise(number = 23, says = "in place of its own")
    static void itsOwnMiddleIsNotAsked(Check check) {
        MineUpside x = hung(".;.", 0, 1);
        for (int middle = 0; middle <= 5; middle++) {
            x.set(0, middle);
            check.due("MIDDLE " + middle, x.where(), 62);
        }
        check.due("MIDDLE is as it was", x.set(0, 0), 5);
    }

    // ---- promise 24: hang

    @Promise(number = 24, says = "NONE: there are no ROWS")
    static void withoutRowsNoPlumbIsToHang(Check check) {
        check.due("of a new one", new MineUpside().hang(), NONE);
        MineUpside x = Check.mine(".;.");
        check.due("of two ROWS", x.hang(), 1);
        x.type(';');
        check.due("with a FAULT", x.hang(), NONE);
        x.wipe();
        check.due("behind wipe()", x.hang(), NONE);
    }

    @Promise(number = 24, says = "HANG: the ROW (that there is)")
    static void onlyRowsThatThereAre(Check check) {
        int[] want = {0, 1, 2, 2, 2};
        String text = ".";
        for (int rows = 1; rows <= 5; rows++) {
            check.due("of " + rows + " ROWS", Check.mine(text).hang(), want[rows - 1]);
            text = text + ";.";
        }
        check.due("MIDDLE 4 or 5, but one ROW", hung(".", 3, 1).hang(), 0);
    }

    @Promise(number = 24, says = "by which of these the greater number (UP, or not) is least")
    static void theRowThatTellsMost(Check check) {
        check.due("of 2 to 5", hung(".;.;.;.;.", 1, 1).hang(), 3);
        check.due("of 0 to 3", hung(".;.;.;.;.", 3, 0).hang(), 1);
        check.due("of 4 and 5", hung(".;.;.;.;.", 3, 1).hang(), 4);
        check.due("of 0 and 1", hung(".;.;.;.;.", 1, 0).hang(), 0);
    }

    @Promise(number = 24, says = "the greater number (UP, or not) is least, of like ones the least")
    static void theLeastOfRowsThatTellAlike(Check check) {
        check.due("of 3 to 5", hung(".;.;.;.;.", 2, 1).hang(), 3);
        check.due("of 0 to 2", hung(".;.;.;.;.", 2, 0).hang(), 0);
        check.due("of one", hung(".;.;.;.;.", 4, 1).hang(), 0);
    }

    @Promise(number = 24, says = "the greater number (UP, or not) is least, of like ones the least")
    static void whereItMayBeNowhereAllRowsTellAlike(Check check) {
        check.due("of none", hung(".;.;.;.;.", 2, 1, 2, 0).hang(), 0);
    }

    // ---- promise 25: from

    private static void fromOf(Check check, MineUpside x, int cell, int steps, int... want) {
        check.due("from(" + cell + ", " + steps + ", NONE)", x.from(cell, steps, NONE), want.length);
        for (int i = 0; i < want.length; i++) {
            check.due("from(" + cell + ", " + steps + ", " + i + ")", x.from(cell, steps, i), want[i]);
        }
        check.due("behind the last", x.from(cell, steps, want.length), NONE);
        check.due("from(" + cell + ", " + steps + ", 34)", x.from(cell, steps, 34), NONE);
    }

    @Promise(number = 25, says = "from which what begins to fall there is in a told CELL behind so many STEPS (0 to 9)")
    static void behindNoStepItIsWhereItBegan(Check check) {
        MineUpside x = Check.mine(".;.;l;.", 0);
        for (int cell = 0; cell < 4; cell++) {
            fromOf(check, x, cell, 0, cell);
        }
    }

    @Promise(number = 25, says = "from which what begins to fall there is in a told CELL behind so many STEPS (0 to 9)")
    static void theFloorGathersWhatFalls(Check check) {
        MineUpside x = Check.mine(".;.;.;.;.", 0);
        fromOf(check, x, 4, 1, 3, 4);
        fromOf(check, x, 4, 3, 1, 2, 3, 4);
        fromOf(check, x, 4, 4, 0, 1, 2, 3, 4);
        fromOf(check, x, 4, 9, 0, 1, 2, 3, 4);
        x.set(0, 5);
        fromOf(check, x, 0, 9, 0, 1, 2, 3, 4);
        x.set(0, 2);
        fromOf(check, x, 0, 9, 0, 1);
        fromOf(check, x, 4, 9, 2, 3, 4);
    }

    @Promise(number = 25, says = "from which what begins to fall there is in a told CELL behind so many STEPS (0 to 9)")
    static void inTheAirItIsButForAStep(Check check) {
        MineUpside x = Check.mine(".;.;.;.", 0);
        fromOf(check, x, 2, 1, 1);
        fromOf(check, x, 2, 2, 0);
        fromOf(check, x, 2, 3);
        fromOf(check, x, 2, 9);
    }

    @Promise(number = 25, says = "from which what begins to fall there is in a told CELL behind so many STEPS (0 to 9)")
    static void whatIsHeldAtOnceIsThereToo(Check check) {
        fromOf(check, Check.mine("#;.;#", 0), 1, 9, 1);
        fromOf(check, Check.mine(".;l;.", 0), 1, 9, 0, 1);
        fromOf(check, Check.mine(".;l;.", 0), 2, 9, 2);
    }

    @Promise(number = 25, says = "FROM: CELLS (no rock)")
    static void nothingBeginsInRockOrEndsThere(Check check) {
        MineUpside x = Check.mine("#;.;.", 0);
        fromOf(check, x, 0, 0);
        fromOf(check, x, 0, 9);
        fromOf(check, x, 2, 9, 1, 2);
    }

    @Promise(number = 25, says = "behind so many STEPS (0 to 9) of its own")
    static void noSuchNumberOfStepsIsBad(Check check) {
        MineUpside x = Check.mine(".;.");
        check.due("from(0, 9, NONE)", x.from(0, 9, NONE), 2);
        for (int steps : Check.outside(0, 9)) {
            check.due("from(0, " + steps + ", NONE)", x.from(0, steps, NONE), BAD);
            check.due("from(0, " + steps + ", 0)", x.from(0, steps, 0), BAD);
        }
    }

    @Promise(number = 25, says = "how many (i = NONE), the i-th (0 to 34; NONE). BAD.")
    static void noSuchFindIsBad(Check check) {
        MineUpside x = Check.mine(".......;.......;.......;.......;.......");
        check.due("from(0, 0, 34)", x.from(0, 0, 34), NONE);
        for (int i : Check.outside(NONE, 34)) {
            check.due("from(0, 0, " + i + ")", x.from(0, 0, i), BAD);
        }
    }

    @Promise(number = 25, says = "how many (i = NONE), the i-th (0 to 34; NONE). BAD.")
    static void noSuchCellHasFinds(Check check) {
        MineUpside x = Check.mine("..");
        for (int cell : Check.outside(0, 1)) {
            check.due("from(" + cell + ", 0, NONE)", x.from(cell, 0, NONE), BAD);
            check.due("from(" + cell + ", 0, 0)", x.from(cell, 0, 0), BAD);
        }
        check.due("from(34, 0, NONE)", x.from(34, 0, NONE), BAD);
        check.due("from(0, 0, NONE) without CELLS", new MineUpside().from(0, 0, NONE), BAD);
    }
}
