/** Promises 8 to 14: thing, back, read, at, rests, longest, meet. */
public final class ThingsTest {
    private static final int NONE = -1, BAD = -2, NOT = -3, FULL = -4;
    private static final String LARGEST = ".......;.......;.......;.......;.......";

    public static void main(String[] args) throws IllegalAccessException {
        Check.run(ThingsTest.class);
    }

    // ---- promise 8: thing

    @Promise(number = 8, says = "THINGS, 8 at most (0 on)")
    static void theEighthThingComesAndTheNinthIsFull(Check check) {
        MineUpside x = Check.mine("..");
        for (int i = 1; i <= 8; i++) {
            check.due("thing(1, 0)", x.thing(1, 0), i);
        }
        check.due("the ninth", x.thing(0, 0), FULL);
        check.due("THINGS", x.count(3), 8);
        check.due("the last one", x.at(7, 0), 1);
        check.due("no one more", x.at(8, 0), BAD);
    }

    @Promise(number = 8, says = "THINGS, 8 at most (0 on)")
    static void aThingComesAgainWhenThereAreNoMoreEight(Check check) {
        MineUpside x = Check.mine("..");
        for (int i = 0; i < 8; i++) {
            x.thing(0, 0);
        }
        x.back();
        check.due("thing(1, 0)", x.thing(1, 0), 8);
        check.due("at(7, 0)", x.at(7, 0), 1);
    }

    @Promise(number = 8, says = "each in a CELL (0 to 34) from a STEP (0 to 99) on")
    static void theLeastAndTheGreatestNumbersAreTaken(Check check) {
        MineUpside x = Check.mine(LARGEST, 0);
        check.due("thing(0, 0)", x.thing(0, 0), 1);
        check.due("thing(34, 99)", x.thing(34, 99), 2);
        check.due("at(0, 0)", x.at(0, 0), 0);
        check.due("at(1, 99)", x.at(1, 99), 34);
    }

    @Promise(number = 8, says = "each in a CELL (0 to 34)")
    static void aThingMayBeInACellThatThereIsNot(Check check) {
        MineUpside x = new MineUpside();
        check.due("thing(34, 0) without CELLS", x.thing(34, 0), 1);
        Check.type(x, LARGEST);
        check.due("at(0, 0)", x.at(0, 0), 34);
    }

    @Promise(number = 8, says = "each in a CELL (0 to 34)")
    static void aThingInNoSuchCellIsBad(Check check) {
        MineUpside x = Check.mine(LARGEST);
        for (int cell : Check.outside(0, 34)) {
            check.due("thing(" + cell + ", 0)", x.thing(cell, 0), BAD);
        }
        check.due("THINGS", x.count(3), 0);
    }

    @Promise(number = 8, says = "from a STEP (0 to 99) on")
    static void aThingFromNoSuchStepOnIsBad(Check check) {
        MineUpside x = Check.mine(LARGEST);
        for (int step : Check.outside(0, 99)) {
            check.due("thing(0, " + step + ")", x.thing(0, step), BAD);
        }
        check.due("THINGS", x.count(3), 0);
    }

    @Promise(number = 8, says = "A THING more: how many. BAD; FULL.")
    static void badThingsComeAheadOfFull(Check check) {
        MineUpside x = new MineUpside();
        for (int i = 0; i < 8; i++) {
            x.thing(0, 0);
        }
        check.due("thing(35, 0)", x.thing(35, 0), BAD);
        check.due("thing(0, 100)", x.thing(0, 100), BAD);
    }

    // ---- promise 9: back

    @Promise(number = 9, says = "The last THING is undone: how many are left")
    static void theLastThingIsUndone(Check check) {
        MineUpside x = Check.mine("...");
        x.thing(2, 0);
        x.thing(1, 0);
        check.due("back()", x.back(), 1);
        check.due("the first one is there", x.at(0, 0), 2);
        check.due("the last one is not", x.at(1, 0), BAD);
        check.due("back()", x.back(), 0);
        check.due("no one is", x.at(0, 0), BAD);
    }

    @Promise(number = 9, says = "The last THING is undone: how many are left")
    static void eightThingsAreUndone(Check check) {
        MineUpside x = new MineUpside();
        for (int i = 0; i < 8; i++) {
            x.thing(i, i);
        }
        for (int left = 7; left >= 0; left--) {
            check.due("back()", x.back(), left);
            check.due("THINGS", x.count(3), left);
        }
    }

    @Promise(number = 9, says = "NOT: there is none")
    static void noThingIsLeftToUndo(Check check) {
        MineUpside x = new MineUpside();
        check.due("back() of a new one", x.back(), NOT);
        x.thing(0, 0);
        x.back();
        check.due("back() behind the last", x.back(), NOT);
        check.due("thing(0, 0)", x.thing(0, 0), 1);
    }

    // ---- promise 10: read

    /** A SHEET of a FORM with these items. */
    private static void fill(MineUpside x, int s, int form, int... items) {
        x.sheet(s, form, items.length);
        for (int i = 0; i < items.length; i++) {
            x.put(s, form, i, items[i]);
        }
    }

    @Promise(number = 10, says = "THINGS from a SHEET: its items, two for each")
    static void thingsComeFromSheetsOfEachForm(Check check) {
        for (int form = 0; form <= 2; form++) {
            MineUpside x = Check.mine(LARGEST, 0);
            fill(x, form, form, 34, 99, 28, 1);
            check.due("read(" + form + ")", x.read(form), 2);
            check.due("at(0, 98)", x.at(0, 98), NONE);
            check.due("at(0, 99)", x.at(0, 99), 34);
            check.due("at(1, 0)", x.at(1, 0), NONE);
            check.due("at(1, 1)", x.at(1, 1), 28);
        }
    }

    @Promise(number = 10, says = "THINGS from a SHEET")
    static void readThingsComeBehindThoseThatThereAre(Check check) {
        MineUpside x = Check.mine("....");
        x.thing(3, 0);
        fill(x, 3, 0, 2, 0);
        check.due("read(3)", x.read(3), 1);
        check.due("THINGS", x.count(3), 2);
        check.due("at(0, 0)", x.at(0, 0), 3);
        check.due("at(1, 0)", x.at(1, 0), 2);
    }

    @Promise(number = 10, says = "as many as are whole")
    static void aSheetWithoutItemsHasNoThing(Check check) {
        MineUpside x = new MineUpside();
        fill(x, 0, 2);
        check.due("read(0)", x.read(0), 0);
        check.due("THINGS", x.count(3), 0);
        check.due("FINDING", x.count(8), 0);
    }

    @Promise(number = 10, says = "as many as are whole")
    static void aLastItemByItselfIsNoThing(Check check) {
        MineUpside x = new MineUpside();
        fill(x, 0, 0, 1);
        check.due("read(0) of one item", x.read(0), 0);
        fill(x, 0, 0, 1, 2);
        check.due("read(0) of two items", x.read(0), 1);
        fill(x, 0, 0, 1, 2, 3);
        check.due("read(0) of three items", x.read(0), 1);
        check.due("THINGS", x.count(3), 2);
    }

    @Promise(number = 10, says = "as long as each may be: how many")
    static void aThingThatMayNotBeEndsIt(Check check) {
        int[][] wrong = {{-1, 0}, {35, 0}, {0, -1}, {0, 100}};
        for (int[] pair : wrong) {
            MineUpside x = Check.mine("...");
            fill(x, 0, 0, 2, 0, pair[0], pair[1], 1, 0);
            check.due("read(0) up to " + pair[0] + ", " + pair[1], x.read(0), 1);
            check.due("THINGS", x.count(3), 1);
            check.due("at(0, 0)", x.at(0, 0), 2);
            check.due("FINDING", x.count(8), 0);
        }
    }

    @Promise(number = 10, says = "as long as each may be: how many")
    static void theFirstMayNotBe(Check check) {
        MineUpside x = Check.mine("...");
        fill(x, 0, 2, Integer.MAX_VALUE, Integer.MIN_VALUE, 0, 0);
        check.due("read(0)", x.read(0), 0);
        check.due("THINGS", x.count(3), 0);
    }

    @Promise(number = 10, says = "as long as each may be: how many")
    static void noMoreThanEightThingsAreRead(Check check) {
        MineUpside x = Check.mine("..");
        x.sheet(0, 1, 48);
        check.due("read(0) of 24", x.read(0), 8);
        check.due("THINGS", x.count(3), 8);
        check.due("read(0) when there are eight", x.read(0), 0);
        x.back();
        x.back();
        x.back();
        check.due("read(0) when there are five", x.read(0), 3);
        check.due("THINGS", x.count(3), 8);
    }

    @Promise(number = 10, says = "as long as each may be: how many")
    static void justEightThingsAreRead(Check check) {
        MineUpside x = Check.mine("..");
        x.sheet(0, 0, 16);
        x.put(0, 0, 14, 1);
        check.due("read(0)", x.read(0), 8);
        check.due("the last one", x.at(7, 0), 1);
    }

    @Promise(number = 10, says = "two for each, as many as are whole, as long as each may be: how many. BAD; NULL.")
    static void noSuchSheetIsBadToRead(Check check) {
        MineUpside x = new MineUpside();
        for (int s : Check.outside(0, 3)) {
            check.due("read(" + s + ")", x.read(s), BAD);
        }
        check.due("FINDING", x.count(8), 0);
    }

    @Promise(number = 10, says = "two for each, as many as are whole, as long as each may be: how many. BAD; NULL.")
    static void aLostSheetIsNullToRead(Check check) {
        MineUpside x = new MineUpside();
        for (int s = 0; s <= 3; s++) {
            check.due("read(" + s + ")", x.read(s), Check.NULL);
        }
        check.due("FINDING", x.count(8), 1);
        fill(x, 0, 0, 0, 0);
        x.lose(0);
        check.due("read(0) of one that was lost", x.read(0), Check.NULL);
        check.due("THINGS", x.count(3), 0);
    }

    // ---- promise 11: at

    @Promise(number = 11, says = "in each STEP behind that it falls by one CELL, if it is not HELD")
    static void aThingFallsByOneCellAStep(Check check) {
        MineUpside x = Check.mine(".;.;.;.;.", 0);
        x.thing(0, 3);
        int[] down = {NONE, NONE, NONE, 0, 1, 2, 3, 4, 4, 4};
        for (int step = 0; step < down.length; step++) {
            check.due("DOWN: at(0, " + step + ")", x.at(0, step), down[step]);
        }
        check.due("DOWN: at(0, 99)", x.at(0, 99), 4);
        x.set(0, 5);
        x.thing(4, 0);
        int[] up = {4, 3, 2, 1, 0, 0, 0};
        for (int step = 0; step < up.length; step++) {
            check.due("UP: at(1, " + step + ")", x.at(1, step), up[step]);
        }
    }

    @Promise(number = 11, says = "Behind a STEP (0 to 99): in which CELL a THING is")
    static void theFirstAndTheLastStep(Check check) {
        MineUpside x = Check.mine(".;.;.", 0);
        x.thing(0, 0);
        x.thing(0, 98);
        x.thing(0, 99);
        check.due("at(0, 0)", x.at(0, 0), 0);
        check.due("at(0, 99)", x.at(0, 99), 2);
        check.due("at(1, 99)", x.at(1, 99), 1);
        check.due("at(2, 99)", x.at(2, 99), 0);
    }

    @Promise(number = 11, says = "NONE: it is NOWHERE, or not there yet")
    static void aThingIsNotThereYet(Check check) {
        MineUpside x = Check.mine("..");
        x.thing(1, 99);
        check.due("at(0, 0)", x.at(0, 0), NONE);
        check.due("at(0, 98)", x.at(0, 98), NONE);
        check.due("at(0, 99)", x.at(0, 99), 1);
    }

    @Promise(number = 11, says = "of a CELL that is rock, or that there is not, it is NOWHERE")
    static void aThingInRockIsNowhere(Check check) {
        MineUpside x = Check.mine("#.;..", 0);
        x.thing(0, 0);
        check.due("at(0, 0)", x.at(0, 0), NONE);
        check.due("at(0, 99)", x.at(0, 99), NONE);
    }

    @Promise(number = 11, says = "of a CELL that is rock, or that there is not, it is NOWHERE")
    static void aThingInACellThatThereIsNotIsNowhere(Check check) {
        MineUpside x = Check.mine("..;..", 2);
        x.thing(4, 0);
        x.thing(34, 0);
        check.due("at(0, 0)", x.at(0, 0), NONE);
        check.due("at(0, 99)", x.at(0, 99), NONE);
        check.due("at(1, 0)", x.at(1, 0), NONE);
        x.wipe();
        x.thing(0, 0);
        check.due("at(2, 0) without CELLS", x.at(2, 0), NONE);
    }

    @Promise(number = 11, says = "of a CELL that is rock, or that there is not, it is NOWHERE")
    static void withAFaultAThingIsNowhere(Check check) {
        MineUpside x = Check.mine("..");
        x.thing(0, 0);
        check.due("at(0, 0)", x.at(0, 0), 0);
        x.type(';');
        check.due("with a FAULT", x.at(0, 0), NONE);
        x.undo();
        check.due("without it", x.at(0, 0), 0);
    }

    @Promise(number = 11, says = "THINGS do not hold each other")
    static void thingsFallThroughEachOther(Check check) {
        MineUpside x = Check.mine(".;.;.", 0);
        x.thing(2, 0);
        x.thing(2, 0);
        x.thing(1, 0);
        x.thing(0, 0);
        check.due("at(2, 1)", x.at(2, 1), 2);
        check.due("at(3, 2)", x.at(3, 2), 2);
    }

    @Promise(number = 11, says = "into the next CELL that way (also into a ladder; there one is HELD)")
    static void aThingFallsIntoALadderAndIsHeld(Check check) {
        MineUpside x = Check.mine(".;.;l;.", 0);
        x.thing(0, 0);
        x.thing(2, 0);
        check.due("at(0, 2)", x.at(0, 2), 2);
        check.due("at(0, 3)", x.at(0, 3), 2);
        check.due("at(1, 9)", x.at(1, 9), 2);
    }

    @Promise(number = 11, says = "what is in a ROW less than that falls UP (to ROWS that are less), all else DOWN")
    static void thingsFallAwayFromTheMiddle(Check check) {
        MineUpside x = Check.mine(".;.;.;.;.", 3);
        x.thing(2, 0);
        x.thing(3, 0);
        check.due("at(0, 1)", x.at(0, 1), 1);
        check.due("at(0, 2)", x.at(0, 2), 0);
        check.due("at(1, 1)", x.at(1, 1), 4);
    }

    @Promise(number = 11, says = "In which CELL it is; NONE. BAD.")
    static void noSuchThingIsBad(Check check) {
        MineUpside x = Check.mine("..");
        check.due("at(0, 0) without THINGS", x.at(0, 0), BAD);
        x.thing(0, 0);
        x.thing(0, 0);
        for (int thing : Check.outside(0, 1)) {
            check.due("at(" + thing + ", 0)", x.at(thing, 0), BAD);
        }
        check.due("at(7, 0)", x.at(7, 0), BAD);
    }

    @Promise(number = 11, says = "Behind a STEP (0 to 99)")
    static void noSuchStepIsBad(Check check) {
        MineUpside x = Check.mine("..");
        x.thing(0, 0);
        x.thing(34, 0);
        for (int step : Check.outside(0, 99)) {
            check.due("at(0, " + step + ")", x.at(0, step), BAD);
            check.due("NOWHERE: at(1, " + step + ")", x.at(1, step), BAD);
        }
    }

    // ---- promise 12: rests

    @Promise(number = 12, says = "RESTS of a THING: the CELL in which it is HELD in the end")
    static void aThingRestsWhereItIsHeld(Check check) {
        MineUpside x = Check.mine("..;#.;..;.l;.#", 0);
        x.thing(0, 0);
        x.thing(1, 0);
        x.thing(4, 0);
        x.thing(8, 0);
        check.due("over rock", x.rests(0, 0), 0);
        check.due("in a ladder", x.rests(1, 0), 7);
        check.due("over no CELL", x.rests(2, 0), 8);
        check.due("at once", x.rests(3, 0), 8);
        x.set(0, 5);
        check.due("below rock", x.rests(2, 0), 4);
    }

    @Promise(number = 12, says = "RESTS of a THING: the CELL in which it is HELD in the end")
    static void theEndMayBeBehindTheLastStep(Check check) {
        MineUpside x = Check.mine(".;.;.;.;.", 0);
        x.thing(0, 99);
        check.due("rests(0, 0)", x.rests(0, 0), 4);
        check.due("rests(0, 1)", x.rests(0, 1), 4);
    }

    @Promise(number = 12, says = "FALLS: by how many CELLS")
    static void aThingFallsByNoneToFourCells(Check check) {
        MineUpside x = Check.mine(".;.;.;.;.", 0);
        for (int cell = 0; cell < 5; cell++) {
            x.thing(cell, 0);
            check.due("DOWN: rests(" + cell + ", 1)", x.rests(cell, 1), 4 - cell);
        }
        x.set(0, 5);
        for (int cell = 0; cell < 5; cell++) {
            check.due("UP: rests(" + cell + ", 1)", x.rests(cell, 1), cell);
        }
    }

    @Promise(number = 12, says = "FALLS: by how many CELLS")
    static void aWideMineIsFallenThroughByRows(Check check) {
        MineUpside x = Check.mine(LARGEST, 0);
        x.thing(6, 0);
        check.due("rests(0, 0)", x.rests(0, 0), 34);
        check.due("rests(0, 1)", x.rests(0, 1), 4);
    }

    @Promise(number = 12, says = "RESTS (what = 0; NONE), FALLS (1; 0: it is NOWHERE)")
    static void nowhereAThingNeitherRestsNorFalls(Check check) {
        MineUpside x = Check.mine("#.;..", 0);
        x.thing(0, 0);
        x.thing(4, 0);
        x.thing(34, 99);
        for (int thing = 0; thing < 3; thing++) {
            check.due("rests(" + thing + ", 0)", x.rests(thing, 0), NONE);
            check.due("rests(" + thing + ", 1)", x.rests(thing, 1), 0);
        }
    }

    @Promise(number = 12, says = "FALLS (1; 0: it is NOWHERE). BAD.")
    static void noSuchThingRests(Check check) {
        MineUpside x = Check.mine("..");
        check.due("rests(0, 0) without THINGS", x.rests(0, 0), BAD);
        x.thing(0, 0);
        for (int thing : Check.outside(0, 0)) {
            check.due("rests(" + thing + ", 0)", x.rests(thing, 0), BAD);
            check.due("rests(" + thing + ", 1)", x.rests(thing, 1), BAD);
        }
    }

    @Promise(number = 12, says = "FALLS (1; 0: it is NOWHERE). BAD.")
    static void noSuchWhatOfAThingIsBad(Check check) {
        MineUpside x = Check.mine("..");
        x.thing(0, 0);
        x.thing(34, 0);
        for (int what : Check.outside(0, 1)) {
            check.due("rests(0, " + what + ")", x.rests(0, what), BAD);
            check.due("NOWHERE: rests(1, " + what + ")", x.rests(1, what), BAD);
        }
    }

    // ---- promise 13: longest

    @Promise(number = 13, says = "LONGEST: the THING that falls by most, of like ones the least")
    static void theThingThatFallsByMost(Check check) {
        MineUpside x = Check.mine(".;.;.;.;.", 1);
        x.thing(3, 0);
        x.thing(1, 9);
        x.thing(2, 0);
        check.due("longest()", x.longest(), 1);
        x.set(0, 5);
        check.due("UP: longest()", x.longest(), 0);
    }

    @Promise(number = 13, says = "LONGEST: the THING that falls by most, of like ones the least")
    static void theLeastOfThoseThatFallAlike(Check check) {
        MineUpside x = Check.mine("..;..;..", 0);
        x.thing(4, 0);
        x.thing(3, 5);
        x.thing(2, 0);
        check.due("of 1 and 2", x.longest(), 1);
        x.thing(0, 99);
        x.thing(1, 0);
        check.due("of 3 and 4", x.longest(), 3);
    }

    @Promise(number = 13, says = "LONGEST: the THING that falls by most, of like ones the least")
    static void theLeastOfThoseThatDoNotFall(Check check) {
        MineUpside x = Check.mine("...");
        x.thing(2, 0);
        x.thing(0, 0);
        check.due("longest()", x.longest(), 0);
    }

    @Promise(number = 13, says = "NONE: none is anywhere")
    static void withoutThingsThereIsNoLongest(Check check) {
        check.due("of a new one", new MineUpside().longest(), NONE);
        MineUpside x = Check.mine("..");
        check.due("of no THINGS", x.longest(), NONE);
        x.thing(0, 0);
        x.back();
        check.due("behind back()", x.longest(), NONE);
    }

    @Promise(number = 13, says = "NONE: none is anywhere")
    static void ofThingsThatAreNowhereThereIsNoLongest(Check check) {
        MineUpside x = Check.mine("#.");
        x.thing(0, 0);
        x.thing(2, 0);
        check.due("rock and no CELL", x.longest(), NONE);
        x.thing(1, 99);
        check.due("one that is somewhere", x.longest(), 2);
        x.wipe();
        check.due("without CELLS", x.longest(), NONE);
    }

    @Promise(number = 13, says = "LONGEST: the THING that falls by most")
    static void theLastOfEightMayBeTheLongest(Check check) {
        MineUpside x = Check.mine(".;.;.", 0);
        for (int i = 0; i < 7; i++) {
            x.thing(1, 0);
        }
        x.thing(0, 0);
        check.due("longest()", x.longest(), 7);
    }

    // ---- promise 14: meet

    @Promise(number = 14, says = "MEET of two THINGS: the first STEP behind which both are in one CELL")
    static void thingsMeetInTheAirAndOnTheFloor(Check check) {
        MineUpside x = Check.mine(".;.;.;.;.", 0);
        x.thing(0, 4);
        x.thing(1, 5);
        x.thing(2, 7);
        check.due("in the air", x.meet(0, 1), 5);
        check.due("the other way round", x.meet(1, 0), 5);
        check.due("on the floor", x.meet(0, 2), 9);
    }

    @Promise(number = 14, says = "MEET of two THINGS: the first STEP behind which both are in one CELL")
    static void thingsMeetAtTheFirstStep(Check check) {
        MineUpside x = Check.mine("..");
        x.thing(1, 0);
        x.thing(1, 0);
        check.due("meet(0, 1)", x.meet(0, 1), 0);
    }

    @Promise(number = 14, says = "MEET of two THINGS: the first STEP behind which both are in one CELL")
    static void thingsMeetAtTheLastStep(Check check) {
        MineUpside x = Check.mine(".;.", 0);
        x.thing(1, 0);
        x.thing(1, 99);
        x.thing(0, 98);
        check.due("as it comes", x.meet(0, 1), 99);
        check.due("as it has fallen", x.meet(0, 2), 99);
    }

    @Promise(number = 14, says = "Behind a STEP (0 to 99)")
    static void thingsDoNotMeetBehindTheLastStep(Check check) {
        MineUpside x = Check.mine(".;.", 0);
        x.thing(1, 0);
        x.thing(0, 99);
        check.due("meet(0, 1)", x.meet(0, 1), NONE);
        check.due("though both rest there", x.rests(1, 0), 1);
    }

    @Promise(number = 14, says = "MEET of two THINGS: the first STEP behind which both are in one CELL; NONE")
    static void thingsThatRestApartDoNotMeet(Check check) {
        MineUpside x = Check.mine("..;..;..");
        x.thing(0, 0);
        x.thing(1, 0);
        x.thing(4, 0);
        check.due("beside each other", x.meet(0, 1), NONE);
        check.due("on both sides of the MIDDLE", x.meet(0, 2), NONE);
    }

    @Promise(number = 14, says = "MEET of two THINGS: the first STEP behind which both are in one CELL; NONE")
    static void aLadderKeepsThemApart(Check check) {
        MineUpside x = Check.mine(".;l;.", 0);
        x.thing(0, 0);
        x.thing(2, 0);
        check.due("meet(0, 1)", x.meet(0, 1), NONE);
    }

    @Promise(number = 14, says = "of a CELL that is rock, or that there is not, it is NOWHERE")
    static void nowhereThingsDoNotMeet(Check check) {
        MineUpside x = Check.mine("#.");
        x.thing(0, 0);
        x.thing(0, 0);
        x.thing(5, 0);
        x.thing(5, 0);
        x.thing(1, 0);
        check.due("in rock", x.meet(0, 1), NONE);
        check.due("in no CELL", x.meet(2, 3), NONE);
        check.due("one of both", x.meet(0, 4), NONE);
        check.due("the other one", x.meet(4, 3), NONE);
    }

    @Promise(number = 14, says = "BAD: also one twice")
    static void aThingDoesNotMeetItself(Check check) {
        MineUpside x = Check.mine("..");
        x.thing(0, 0);
        x.thing(1, 0);
        check.due("meet(0, 0)", x.meet(0, 0), BAD);
        check.due("meet(1, 1)", x.meet(1, 1), BAD);
    }

    @Promise(number = 14, says = "MEET; NONE. BAD")
    static void noSuchThingMeets(Check check) {
        MineUpside x = Check.mine("..");
        check.due("meet(0, 1) without THINGS", x.meet(0, 1), BAD);
        x.thing(0, 0);
        check.due("meet(0, 1) with one", x.meet(0, 1), BAD);
        x.thing(1, 0);
        for (int thing : Check.outside(0, 1)) {
            check.due("meet(" + thing + ", 0)", x.meet(thing, 0), BAD);
            check.due("meet(0, " + thing + ")", x.meet(0, thing), BAD);
            check.due("meet(" + thing + ", " + thing + ")", x.meet(thing, thing), BAD);
        }
    }
}
