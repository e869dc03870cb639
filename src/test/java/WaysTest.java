/** Promises 15 to 18: way, next, race, reach. */
public final class WaysTest {
    private static final int NONE = -1, BAD = -2;
    private static final String LARGEST = ".......;.......;.......;.......;.......";

    /**
     * From CELL 6 to CELL 8 it is 6 moves over the first ROW, or 4 moves over the fourth one;
     * with MIDDLE 3 these turn twice.
     */
    private static final String RING = "lll;l#l;l#l;lll;###";

    public static void main(String[] args) throws IllegalAccessException {
        Check.run(WaysTest.class);
    }

    // ---- promise 15: way

    @Promise(number = 15, says = "0: he is; he need not be HELD there")
    static void whoIsThereNeedsNoStep(Check check) {
        MineUpside x = Check.mine("..;..", 0);
        check.due("not HELD", x.way(0, 0), 0);
        check.due("HELD", x.way(3, 3), 0);
    }

    @Promise(number = 15, says = "0: he is; he need not be HELD there")
    static void aWayMayEndInTheAir(Check check) {
        MineUpside x = Check.mine("..;..;#.;#.", 0);
        check.due("beside a floor", x.way(2, 3), 1);
        check.due("as he falls", x.way(1, 3), 1);
        check.due("further down", x.way(1, 5), 2);
    }

    @Promise(number = 15, says = "NONE: there is none, or one of both is rock")
    static void thereIsNoWayFromRockOrIntoIt(Check check) {
        MineUpside x = Check.mine("..#");
        check.due("into rock", x.way(1, 2), NONE);
        check.due("from rock", x.way(2, 1), NONE);
        check.due("from rock to itself", x.way(2, 2), NONE);
    }

    @Promise(number = 15, says = "NONE: there is none, or one of both is rock")
    static void thereIsNoWay(Check check) {
        MineUpside x = Check.mine(".#.;.#.", 0);
        check.due("through rock", x.way(3, 5), NONE);
        check.due("up without a ladder", x.way(3, 0), NONE);
        check.due("down", x.way(0, 3), 1);
    }

    @Promise(number = 15, says = "goes in a STEP into a CELL beside it in its ROW that is no rock")
    static void aManGoesAlongAFloor(Check check) {
        MineUpside x = Check.mine(".w.l...");
        check.due("way(0, 6)", x.way(0, 6), 6);
        check.due("way(6, 0)", x.way(6, 0), 6);
        check.due("way(3, 2)", x.way(3, 2), 1);
    }

    @Promise(number = 15, says = "goes in a STEP into a CELL beside it in its ROW that is no rock")
    static void aRowsEndIsNotBesideTheNextRow(Check check) {
        MineUpside x = Check.mine("..;##;##;..");
        check.due("way(1, 2)", x.way(1, 2), NONE);
        MineUpside next = Check.mine("..;..", 1);
        check.due("way(1, 2)", next.way(1, 2), NONE);
        check.due("way(2, 1)", next.way(2, 1), NONE);
    }

    @Promise(number = 15, says = "or, from a ladder, or into one, into the CELL over or under it")
    static void aManClimbsFromALadder(Check check) {
        MineUpside x = Check.mine(".;l;.", 0);
        check.due("over it", x.way(1, 0), 1);
        check.due("under it", x.way(1, 2), 1);
    }

    @Promise(number = 15, says = "or, from a ladder, or into one, into the CELL over or under it")
    static void aManClimbsIntoALadder(Check check) {
        MineUpside down = Check.mine(".;l;.", 0);
        check.due("over him", down.way(2, 1), 1);
        check.due("as high as it goes", down.way(2, 0), 2);
        MineUpside up = Check.mine(".;l;.", 3);
        check.due("under him", up.way(0, 1), 1);
        check.due("as low as it goes", up.way(0, 2), 2);
    }

    @Promise(number = 15, says = "or, from a ladder, or into one, into the CELL over or under it")
    static void withoutALadderHeDoesNotClimb(Check check) {
        MineUpside x = Check.mine("l.;l.;l.", 1);
        check.due("over the MIDDLE beside a ladder", x.way(1, 3), 5);
        MineUpside bare = Check.mine(".;.", 1);
        check.due("over the MIDDLE", bare.way(0, 1), NONE);
        check.due("back over it", bare.way(1, 0), NONE);
    }

    @Promise(number = 15, says = "or, from a ladder, or into one, into the CELL over or under it")
    static void aManUsesAShaft(Check check) {
        // All falls DOWN: a ladder from CELL 1 to 7; 9 to 11 is the floor.
        MineUpside x = Check.mine(".l.;.l.;.l.;...", 0);
        check.due("up, from below into it", x.way(10, 1), 3);
        check.due("down, out of it", x.way(1, 10), 3);
        check.due("off the ladder he falls", x.way(1, 9), 4);
        check.due("out of the air, down, and up again", x.way(0, 1), 7);
    }

    @Promise(number = 15, says = "into the CELL over or under it, if that is no rock")
    static void aManDoesNotClimbIntoRock(Check check) {
        MineUpside x = Check.mine("..;#.;l.;#.;..", 0);
        check.due("over the ladder", x.way(4, 2), NONE);
        check.due("under the ladder", x.way(4, 6), NONE);
        check.due("through the rock", x.way(4, 0), NONE);
        check.due("around the rock", x.way(4, 8), 4);
    }

    @Promise(number = 15, says = "into the CELL over or under it")
    static void noCellIsOverTheFirstRowOrUnderTheLast(Check check) {
        MineUpside x = Check.mine("l#l;###;l#l");
        for (int from : new int[] {0, 2, 6, 8}) {
            for (int to : new int[] {0, 2, 6, 8}) {
                check.due("way(" + from + ", " + to + ")", x.way(from, to), from == to ? 0 : NONE);
            }
        }
    }

    @Promise(number = 15, says = "where it is on the other side of MIDDLE it takes TURN (0 to 9; 2 at first) STEPS more")
    static void turningOverTakesTurnStepsMore(Check check) {
        MineUpside x = Check.mine("l;l;l;l");
        for (int turn = 0; turn <= 9; turn++) {
            x.set(1, turn);
            check.due("DOWN, TURN " + turn, x.way(1, 2), 1 + turn);
            check.due("UP, TURN " + turn, x.way(2, 1), 1 + turn);
            check.due("from end to end, TURN " + turn, x.way(0, 3), 3 + turn);
        }
    }

    @Promise(number = 15, says = "where it is on the other side of MIDDLE it takes TURN (0 to 9; 2 at first) STEPS more")
    static void oneTurnsOverAtTheMiddleAlone(Check check) {
        MineUpside x = Check.mine("l;l;l;l;l");
        for (int middle = 0; middle <= 5; middle++) {
            x.set(0, middle);
            for (int cell = 0; cell < 4; cell++) {
                int want = cell + 1 == middle ? 3 : 1;
                check.due("MIDDLE " + middle + ": way(" + cell + ", next)", x.way(cell, cell + 1), want);
                check.due("MIDDLE " + middle + ": way(next, " + cell + ")", x.way(cell + 1, cell), want);
            }
        }
    }

    @Promise(number = 15, says = "where it is on the other side of MIDDLE it takes TURN (0 to 9; 2 at first) STEPS more")
    static void fromAndIntoOpenCellsOneTurnsOver(Check check) {
        MineUpside over = Check.mine("#;.;l", 2);
        check.due("into a ladder, DOWN", over.way(1, 2), 3);
        check.due("from a ladder, UP", over.way(2, 1), 3);
        MineUpside under = Check.mine("l;.", 1);
        check.due("from a ladder, DOWN", under.way(0, 1), 3);
        check.due("into a ladder, UP", under.way(1, 0), 3);
    }

    @Promise(number = 15, says = "In one that is not HELD he falls, a CELL a STEP, as THINGS do, and can do nothing else")
    static void whoFallsGoesNotAside(Check check) {
        MineUpside x = Check.mine("...;...;#.#", 0);
        check.due("aside in the air", x.way(1, 0), NONE);
        check.due("down", x.way(1, 7), 2);
        check.due("aside from rock's top", x.way(3, 4), 1);
        check.due("not back out of the air", x.way(4, 3), NONE);
    }

    @Promise(number = 15, says = "In one that is not HELD he falls, a CELL a STEP, as THINGS do, and can do nothing else")
    static void whoFallsDoesNotClimb(Check check) {
        MineUpside x = Check.mine("l;.;.", 0);
        check.due("into the ladder over him", x.way(1, 0), NONE);
        MineUpside beside = Check.mine("#.l;..l", 0);
        check.due("into the ladder beside him", beside.way(1, 2), 3);
    }

    @Promise(number = 15, says = "the fewest STEPS in which he can be there")
    static void theSoonestWayMayBeTheOneOfMoreMoves(Check check) {
        MineUpside x = Check.mine(RING, 3);
        int[] want = {4, 6, 6, 6, 6, 6, 6, 6, 6, 6};
        for (int turn = 0; turn <= 9; turn++) {
            x.set(1, turn);
            check.due("TURN " + turn + ": way(6, 8)", x.way(6, 8), want[turn]);
        }
    }

    @Promise(number = 15, says = "the fewest STEPS in which he can be there")
    static void theLongestOfWays(Check check) {
        MineUpside x = Check.mine("lllllll;######l;lllllll;l######;lllllll", 0);
        check.due("from end to end", x.way(0, 34), 22);
        check.due("and back", x.way(34, 0), 22);
        x.set(0, 1);
        x.set(1, 9);
        check.due("turning once", x.way(0, 34), 31);
    }

    @Promise(number = 15, says = "WAY (CELLS that there are): how many STEPS; NONE. BAD.")
    static void noSuchCellHasAWay(Check check) {
        MineUpside x = Check.mine("....");
        for (int cell : Check.outside(0, 3)) {
            check.due("way(" + cell + ", 0)", x.way(cell, 0), BAD);
            check.due("way(0, " + cell + ")", x.way(0, cell), BAD);
            check.due("way(" + cell + ", " + cell + ")", x.way(cell, cell), BAD);
        }
        check.due("way(34, 0)", x.way(34, 0), BAD);
        check.due("way(0, 0) without CELLS", new MineUpside().way(0, 0), BAD);
    }

    @Promise(number = 15, says = "WAY (CELLS that there are): how many STEPS; NONE. BAD.")
    static void theLastCellOfTheLargestMineHasAWay(Check check) {
        MineUpside x = Check.mine(LARGEST, 0);
        check.due("way(28, 34)", x.way(28, 34), 6);
        check.due("way(6, 34)", x.way(6, 34), 4);
        check.due("way(34, 35)", x.way(34, 35), BAD);
        check.due("way(35, 34)", x.way(35, 34), BAD);
    }

    @Promise(number = 15, says = "the fewest STEPS in which he can be there")
    static void aWayIsFoundAnewWhenTheMineChanges(Check check) {
        MineUpside x = Check.mine("...");
        check.due("way(0, 2)", x.way(0, 2), 2);
        x.undo();
        x.type('#');
        check.due("into rock", x.way(0, 2), NONE);
        x.undo();
        check.due("no such CELL", x.way(0, 2), BAD);
        x.type('l');
        check.due("way(0, 2)", x.way(0, 2), 2);
    }

    // ---- promise 16: next

    @Promise(number = 16, says = "NEXT: the CELL into which he goes first")
    static void theFirstCellOfAWay(Check check) {
        MineUpside x = Check.mine("l..;l.#;l..", 0);
        check.due("aside, behind", x.next(6, 8), 7);
        check.due("aside, ahead", x.next(8, 0), 7);
        check.due("over", x.next(6, 0), 3);
        check.due("under", x.next(0, 6), 3);
        check.due("a neighbour", x.next(0, 1), 1);
    }

    @Promise(number = 16, says = "of like ones the least")
    static void theLeastOfFirstCells(Check check) {
        MineUpside x = Check.mine("ll;ll", 0);
        check.due("aside or under", x.next(0, 3), 1);
        check.due("over or aside", x.next(3, 0), 1);
        check.due("aside or over", x.next(2, 1), 0);
        check.due("aside or under", x.next(1, 2), 0);
    }

    @Promise(number = 16, says = "of like ones the least")
    static void theLeastOfFirstCellsGoesBySteps(Check check) {
        MineUpside x = Check.mine(RING, 3);
        x.set(1, 0);
        check.due("TURN 0: four under", x.next(6, 8), 9);
        x.set(1, 1);
        check.due("TURN 1: six both ways", x.next(6, 8), 3);
        x.set(1, 2);
        check.due("TURN 2: six over", x.next(6, 8), 3);
    }

    @Promise(number = 16, says = "NONE: he is there, or there is no WAY")
    static void whoIsThereGoesNowhere(Check check) {
        MineUpside x = Check.mine("..;..", 0);
        check.due("not HELD", x.next(0, 0), NONE);
        check.due("HELD", x.next(3, 3), NONE);
    }

    @Promise(number = 16, says = "NONE: he is there, or there is no WAY")
    static void withoutAWayThereIsNoFirstCell(Check check) {
        MineUpside x = Check.mine("..#.");
        check.due("behind rock", x.next(0, 3), NONE);
        check.due("into rock", x.next(1, 2), NONE);
        check.due("from rock", x.next(2, 1), NONE);
        check.due("from rock to itself", x.next(2, 2), NONE);
    }

    @Promise(number = 16, says = "In one that is not HELD he falls")
    static void whoFallsGoesDownFirst(Check check) {
        MineUpside x = Check.mine("..;..;.l", 0);
        check.due("DOWN", x.next(0, 5), 2);
        x.set(0, 3);
        check.due("UP", x.next(2, 1), 0);
    }

    @Promise(number = 16, says = "NEXT; NONE. BAD.")
    static void noSuchCellHasANext(Check check) {
        MineUpside x = Check.mine("....");
        for (int cell : Check.outside(0, 3)) {
            check.due("next(" + cell + ", 0)", x.next(cell, 0), BAD);
            check.due("next(0, " + cell + ")", x.next(0, cell), BAD);
            check.due("next(" + cell + ", " + cell + ")", x.next(cell, cell), BAD);
        }
        check.due("next(0, 0) without CELLS", new MineUpside().next(0, 0), BAD);
    }

    // ---- promise 17: race

    @Promise(number = 17, says = "RACE of two CELLS to a third one: whose WAY is less (0, 1; 2: as long)")
    static void whoIsFirst(Check check) {
        MineUpside x = Check.mine("....");
        check.due("the first one", x.race(0, 3, 1), 0);
        check.due("the second one", x.race(0, 3, 2), 1);
        check.due("the first one is there", x.race(2, 3, 2), 0);
        check.due("the second one is there", x.race(3, 2, 2), 1);
    }

    @Promise(number = 17, says = "RACE of two CELLS to a third one: whose WAY is less (0, 1; 2: as long)")
    static void bothAreAsLong(Check check) {
        MineUpside x = Check.mine("....");
        check.due("from both sides", x.race(0, 2, 1), 2);
        check.due("from one CELL", x.race(0, 0, 3), 2);
        check.due("both are there", x.race(1, 1, 1), 2);
    }

    @Promise(number = 17, says = "RACE of two CELLS to a third one: whose WAY is less (0, 1; 2: as long)")
    static void onlyOneHasAWay(Check check) {
        MineUpside x = Check.mine("....#.");
        check.due("the first one", x.race(0, 5, 3), 0);
        check.due("the second one", x.race(5, 0, 3), 1);
        check.due("the other is rock", x.race(0, 4, 3), 0);
        check.due("the first one is rock", x.race(4, 0, 3), 1);
        check.due("the first one is there", x.race(5, 0, 5), 0);
        check.due("the second one is there", x.race(0, 5, 5), 1);
    }

    @Promise(number = 17, says = "NONE: neither has one")
    static void neitherHasAWay(Check check) {
        MineUpside x = Check.mine("...#.");
        check.due("through rock", x.race(0, 1, 4), NONE);
        check.due("into rock", x.race(2, 4, 3), NONE);
        check.due("one is the rock", x.race(3, 0, 3), NONE);
        check.due("both are the rock", x.race(3, 3, 3), NONE);
    }

    @Promise(number = 17, says = "RACE; NONE. BAD.")
    static void noSuchCellRaces(Check check) {
        MineUpside x = Check.mine("....");
        for (int cell : Check.outside(0, 3)) {
            check.due("race(" + cell + ", 0, 0)", x.race(cell, 0, 0), BAD);
            check.due("race(0, " + cell + ", 0)", x.race(0, cell, 0), BAD);
            check.due("race(0, 0, " + cell + ")", x.race(0, 0, cell), BAD);
        }
        check.due("race(0, 0, 0) without CELLS", new MineUpside().race(0, 0, 0), BAD);
    }

    // ---- promise 18: reach

    @Promise(number = 18, says = "how many CELLS there are to which there is a WAY (itself, too)")
    static void aCellByItselfReachesItself(Check check) {
        check.due("the only CELL", Check.mine(".").reach(0), 1);
        check.due("between rocks", Check.mine("#.#").reach(1), 1);
        check.due("on the floor", Check.mine(".;.", 0).reach(1), 1);
    }

    @Promise(number = 18, says = "how many CELLS there are to which there is a WAY (itself, too)")
    static void aManReachesAllCells(Check check) {
        MineUpside x = Check.mine("lllllll;lllllll;lllllll;lllllll;lllllll");
        check.due("reach(0)", x.reach(0), 35);
        check.due("reach(34)", x.reach(34), 35);
    }

    @Promise(number = 18, says = "how many CELLS there are to which there is a WAY (itself, too)")
    static void cellsInTheAirAreReachedToo(Check check) {
        MineUpside x = Check.mine("...;...;#.#", 0);
        check.due("from the top of rock", x.reach(3), 3);
        check.due("as he falls", x.reach(1), 3);
        check.due("on the floor", x.reach(7), 1);
    }

    @Promise(number = 18, says = "REACH (rock: 0)")
    static void rockReachesNothing(Check check) {
        MineUpside x = Check.mine("#.#");
        check.due("reach(0)", x.reach(0), 0);
        check.due("reach(2)", x.reach(2), 0);
    }

    @Promise(number = 18, says = "REACH (rock: 0). BAD.")
    static void noSuchCellReaches(Check check) {
        MineUpside x = Check.mine("....");
        for (int cell : Check.outside(0, 3)) {
            check.due("reach(" + cell + ")", x.reach(cell), BAD);
        }
        check.due("reach(34)", x.reach(34), BAD);
        check.due("reach(0) without CELLS", new MineUpside().reach(0), BAD);
    }
}
