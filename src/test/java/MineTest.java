/** Promises 1 to 7: a new object, the text, FAULT, CELLS, MIDDLE and TURN. */
public final class MineTest {
    private static final int NONE = -1, BAD = -2, NOT = -3, FULL = -4;
    private static final String LARGEST = ".......;.......;.......;.......;.......";

    public static void main(String[] args) throws IllegalAccessException {
        Check.run(MineTest.class);
    }

    // ---- promise 1: a new object

    @Promise(number = 1, says = "No CELLS")
    static void newObjectHasNoCells(Check check) {
        MineUpside x = new MineUpside();
        for (int what = 0; what <= 7; what++) {
            check.due("count(" + what + ")", x.count(what), 0);
        }
        check.due("cell(0, 0)", x.cell(0, 0), BAD);
    }

    @Promise(number = 1, says = "all SHEETS are LOST")
    static void newObjectHasNoSheets(Check check) {
        for (int s = 0; s <= 3; s++) {
            check.due("lose(" + s + ")", new MineUpside().lose(s), Check.NULL);
            check.due("read(" + s + ")", new MineUpside().read(s), Check.NULL);
            check.due("put(" + s + ", 0, 0, 0)", new MineUpside().put(s, 0, 0, 0), Check.NULL);
        }
    }

    @Promise(number = 1, says = "An object is used for at most 512 calls after it has been made")
    static void the512thCallIsAnswered(Check check) {
        MineUpside x = new MineUpside();
        for (int call = 1; call <= 510; call += 2) {
            x.type('.');
            x.undo();
        }
        check.due("the 511th call", x.type('w'), 1);
        check.due("the 512th call", x.wet(0), 1);
    }

    // ---- promise 2: type

    @Promise(number = 2, says = "A byte (0 to 255)")
    static void everyByteComes(Check check) {
        for (int b = 0; b <= 255; b++) {
            check.due("type(" + b + ")", new MineUpside().type(b), 1);
        }
    }

    @Promise(number = 2, says = "A byte (0 to 255)")
    static void noByteIsBad(Check check) {
        MineUpside x = new MineUpside();
        for (int b : Check.outside(0, 255)) {
            check.due("type(" + b + ")", x.type(b), BAD);
        }
        check.due("type('.' and 256)", x.type('.' + 256), BAD);
        check.due("count(2)", x.count(2), 0);
    }

    @Promise(number = 2, says = "comes behind THE MINE: how many")
    static void aByteComesBehindTheOthers(Check check) {
        MineUpside x = new MineUpside();
        check.due("type('w')", x.type('w'), 1);
        check.due("type('#')", x.type('#'), 2);
        check.due("cell(0, 0)", x.cell(0, 0), 3);
        check.due("cell(1, 0)", x.cell(1, 0), 0);
    }

    @Promise(number = 2, says = "comes behind THE MINE: how many")
    static void aByteComesBehindAFault(Check check) {
        MineUpside x = Check.mine("x");
        check.due("type('.')", x.type('.'), 2);
        check.due("fault()", x.fault(), 0);
    }

    @Promise(number = 2, says = "THE MINE is a text of up to 39 bytes")
    static void the39thByteComesAndThe40thIsFull(Check check) {
        MineUpside x = new MineUpside();
        for (int i = 1; i <= 39; i++) {
            check.due("the " + i + "th", x.type('x'), i);
        }
        check.due("the 40th", x.type('x'), FULL);
        check.due("the 40th again", x.type('.'), FULL);
        check.due("count(2)", x.count(2), 39);
    }

    @Promise(number = 2, says = "THE MINE is a text of up to 39 bytes")
    static void aByteComesAgainWhenItIsNoMoreFull(Check check) {
        MineUpside x = Check.mine(LARGEST);
        x.undo();
        check.due("type('w')", x.type('w'), 39);
        check.due("cell(34, 0)", x.cell(34, 0), 3);
        check.due("FULL again", x.type('w'), FULL);
    }

    @Promise(number = 2, says = "BAD; FULL.")
    static void badComesAheadOfFull(Check check) {
        MineUpside x = Check.mine(LARGEST);
        check.due("type(-1)", x.type(-1), BAD);
        check.due("type(256)", x.type(256), BAD);
    }

    // ---- promise 3: wipe

    @Promise(number = 3, says = "how many bytes it had")
    static void anEmptyTextIsWiped(Check check) {
        MineUpside x = new MineUpside();
        check.due("wipe()", x.wipe(), 0);
        check.due("wipe() again", x.wipe(), 0);
        check.due("type('.')", x.type('.'), 1);
    }

    @Promise(number = 3, says = "how many bytes it had")
    static void aFullTextIsWiped(Check check) {
        MineUpside x = Check.mine(LARGEST);
        check.due("wipe()", x.wipe(), 39);
        for (int i = 1; i <= 39; i++) {
            check.due("there is room for the " + i + "th", x.type('.'), i);
        }
    }

    @Promise(number = 3, says = "THE MINE is empty")
    static void nothingIsLeftOfTheMine(Check check) {
        MineUpside x = Check.mine("w.;l.");
        check.due("wipe()", x.wipe(), 5);
        for (int what : new int[] {0, 1, 2, 5, 6, 7}) {
            check.due("count(" + what + ")", x.count(what), 0);
        }
        check.due("cell(0, 0)", x.cell(0, 0), BAD);
        check.due("undo()", x.undo(), NOT);
    }

    @Promise(number = 3, says = "THE MINE is empty")
    static void aMineOfAnotherWidthComesBehindIt(Check check) {
        String[] texts = {"lll;lll;lll", "wwwww", "..;..;..;..", "#######;#######;#######;#######;#######"};
        for (String text : texts) {
            MineUpside x = Check.mine(text);
            check.due("wipe()", x.wipe(), text.length());
            Check.type(x, ".....w.;#######");
            x.set(0, 0);
            for (int cell = 0; cell < 7; cell++) {
                check.due("behind " + text + ": way(0, " + cell + ")", x.way(0, cell), cell);
                check.due("behind " + text + ": way(" + cell + ", 0)", x.way(cell, 0), cell);
                check.due("behind " + text + ": wet(" + cell + ")", x.wet(cell), 1);
                check.due("behind " + text + ": cell(" + cell + ", 0)", x.cell(cell, 0), cell == 5 ? 3 : 1);
            }
        }
    }

    @Promise(number = 3, says = "THE MINE is empty")
    static void aFaultIsWiped(Check check) {
        MineUpside x = Check.mine("..;x");
        check.due("wipe()", x.wipe(), 4);
        check.due("fault()", x.fault(), NONE);
    }

    @Promise(number = 3, says = "THE MINE is empty")
    static void allElseStays(Check check) {
        MineUpside x = Check.mine(".", 4);
        x.set(1, 7);
        x.thing(0, 0);
        x.plumb(0, 1);
        x.sheet(0, 0, 3);
        x.lose(1);
        check.due("wipe()", x.wipe(), 1);
        check.due("THINGS", x.count(3), 1);
        check.due("PLUMBS", x.count(4), 1);
        check.due("FINDING", x.count(8), 1);
        check.due("MIDDLE", x.set(0, 0), 4);
        check.due("TURN", x.set(1, 0), 7);
        check.due("a SHEET", x.lose(0), 3);
    }

    // ---- promise 4: undo

    @Promise(number = 4, says = "The last byte is undone: how many are left")
    static void theLastByteIsUndone(Check check) {
        MineUpside x = Check.mine("w.;");
        check.due("undo()", x.undo(), 2);
        check.due("fault()", x.fault(), NONE);
        check.due("cell(1, 0)", x.cell(1, 0), 1);
        check.due("undo()", x.undo(), 1);
        check.due("cell(1, 0)", x.cell(1, 0), BAD);
        check.due("cell(0, 0)", x.cell(0, 0), 3);
        check.due("undo()", x.undo(), 0);
        check.due("CELLS", x.count(0), 0);
    }

    @Promise(number = 4, says = "The last byte is undone: how many are left")
    static void nothingIsLeftOfACellThatIsUndone(Check check) {
        String kinds = "#.lw";
        for (int a = 0; a < 4; a++) {
            for (int b = 0; b < 4; b++) {
                MineUpside x = Check.mine(".;" + kinds.charAt(a), 0);
                x.undo();
                x.type(kinds.charAt(b));
                check.due("cell(1, 0)", x.cell(1, 0), b);
                check.due("cell(0, 2)", x.cell(0, 2), b == 0 ? 1 : 0);
                check.due("cell(1, 2)", x.cell(1, 2), b == 0 ? 0 : 1);
                check.due("way(1, 0)", x.way(1, 0), b == 2 ? 1 : NONE);
                check.due("springs", x.count(5), b == 3 ? 1 : 0);
                check.due("wet(1)", x.wet(1), b == 3 ? 1 : 0);
            }
        }
    }

    @Promise(number = 4, says = "The last byte is undone: how many are left")
    static void aFullTextIsUndone(Check check) {
        MineUpside x = Check.mine(LARGEST);
        for (int left = 38; left >= 0; left--) {
            check.due("undo()", x.undo(), left);
            check.due("count(2)", x.count(2), left);
        }
    }

    @Promise(number = 4, says = "NOT: there is none")
    static void noByteIsLeftToUndo(Check check) {
        MineUpside x = new MineUpside();
        check.due("undo() of a new one", x.undo(), NOT);
        x.type('.');
        x.undo();
        check.due("undo() behind the last", x.undo(), NOT);
        x.type('.');
        x.wipe();
        check.due("undo() behind wipe()", x.undo(), NOT);
        check.due("type('.')", x.type('.'), 1);
    }

    // ---- promise 5: fault

    private static void faultOf(Check check, String text, int want) {
        check.due("fault() of " + text, Check.mine(text).fault(), want);
    }

    @Promise(number = 5, says = "an empty text is well: no CELLS")
    static void anEmptyTextIsWell(Check check) {
        faultOf(check, "", NONE);
        check.due("CELLS", new MineUpside().count(0), 0);
    }

    @Promise(number = 5, says = "ROWS, 5 at most (0 on, from above), with ; between them")
    static void oneToFiveRowsAreWell(Check check) {
        faultOf(check, ".", NONE);
        faultOf(check, ".;.", NONE);
        faultOf(check, ".;.;.", NONE);
        faultOf(check, ".;.;.;.", NONE);
        faultOf(check, ".;.;.;.;.", NONE);
    }

    @Promise(number = 5, says = "each of as many CELLS (1 to 7) as the first one")
    static void oneToSevenCellsAreWell(Check check) {
        for (int wide = 1; wide <= 7; wide++) {
            faultOf(check, ".".repeat(wide), NONE);
            faultOf(check, ".".repeat(wide) + ";" + "#".repeat(wide), NONE);
        }
        faultOf(check, LARGEST, NONE);
    }

    @Promise(number = 5, says = "# (rock), . (open), l (a ladder), w (a spring; open)")
    static void noOtherByteIsACell(Check check) {
        for (int b = 0; b <= 255; b++) {
            boolean isCell = b == '#' || b == '.' || b == 'l' || b == 'w';
            MineUpside alone = new MineUpside();
            alone.type(b);
            check.due("fault() of the byte " + b, alone.fault(), isCell ? NONE : 0);
        }
        faultOf(check, "..;.L", 4);
        faultOf(check, "..;.W", 4);
    }

    @Promise(number = 5, says = "The FAULT is the place of the first byte with which it cannot go on")
    static void theFirstOfSeveralFaultsIsTold(Check check) {
        faultOf(check, "x;;", 0);
        faultOf(check, "..x;.;.;", 2);
        faultOf(check, "..;.;x", 4);
        faultOf(check, "..;...x", 5);
        faultOf(check, "..;.x...", 4);
    }

    @Promise(number = 5, says = "of one that is not ended, or of a ROW that is too short, its end, or its ;")
    static void aTextThatIsNotEndedHasItsFaultAtItsEnd(Check check) {
        faultOf(check, ".;", 2);
        faultOf(check, ".......;", 8);
        faultOf(check, "..;..;", 6);
        faultOf(check, ".;.;.;.;.;", 10);
    }

    @Promise(number = 5, says = "of a ROW that is too short, its end, or its ;")
    static void aLastRowThatIsTooShortHasItsFaultAtItsEnd(Check check) {
        faultOf(check, "..;.", 4);
        faultOf(check, ".......;......", 14);
        faultOf(check, ".......;.......;.......;.......;......", 38);
    }

    @Promise(number = 5, says = "of a ROW that is too short, its end, or its ;")
    static void aRowThatIsTooShortHasItsFaultAtItsSemicolon(Check check) {
        faultOf(check, "..;.;", 4);
        faultOf(check, "..;.;..", 4);
        faultOf(check, ".......;......;", 14);
    }

    @Promise(number = 5, says = "each of as many CELLS (1 to 7) as the first one")
    static void anEmptyRowHasItsFaultAtItsSemicolon(Check check) {
        faultOf(check, ";", 0);
        faultOf(check, ";.", 0);
        faultOf(check, ".;;", 2);
        faultOf(check, ".;;.", 2);
    }

    @Promise(number = 5, says = "here also of a CELL too many")
    static void theEighthCellOfTheFirstRowIsTooMany(Check check) {
        faultOf(check, "........", 7);
        faultOf(check, ".......#;", 7);
        faultOf(check, ".........", 7);
    }

    @Promise(number = 5, says = "here also of a CELL too many")
    static void aCellMoreThanInTheFirstRowIsTooMany(Check check) {
        faultOf(check, ".;..", 3);
        faultOf(check, "..;...", 5);
        faultOf(check, "..;..;...;", 8);
        faultOf(check, ".;.;.;.;..", 9);
        faultOf(check, ".......;........", 15);
    }

    @Promise(number = 5, says = "of the first byte of a sixth ROW")
    static void aSixthRowHasItsFaultAtItsFirstByte(Check check) {
        faultOf(check, ".;.;.;.;.;.", 10);
        faultOf(check, ".;.;.;.;.;;", 10);
        faultOf(check, ".;.;.;.;.;x", 10);
        faultOf(check, "..;..;..;..;..;..;..", 15);
    }

    @Promise(number = 5, says = "With a FAULT there are no CELLS")
    static void withAFaultNothingIsCounted(Check check) {
        for (String text : new String[] {"w;", "wl;.", "w.x", "ww;www", "w;w;w;w;w;w", "wwwwwwww"}) {
            MineUpside x = Check.mine(text);
            for (int what : new int[] {0, 1, 5, 6, 7}) {
                check.due("count(" + what + ") of " + text, x.count(what), 0);
            }
            check.due("joined() of " + text, x.joined(), 0);
            check.due("like(1) of " + text, x.like(1), 0);
            check.due("hang() of " + text, x.hang(), NONE);
        }
    }

    @Promise(number = 5, says = "With a FAULT there are no CELLS")
    static void withAFaultNoCallTakesACell(Check check) {
        MineUpside x = Check.mine("w.;l.;");
        x.sheet(0, 0, 4);
        check.due("cell(0, 0)", x.cell(0, 0), BAD);
        check.due("way(0, 0)", x.way(0, 0), BAD);
        check.due("next(0, 1)", x.next(0, 1), BAD);
        check.due("race(0, 1, 2)", x.race(0, 1, 2), BAD);
        check.due("reach(0)", x.reach(0), BAD);
        check.due("wet(0)", x.wet(0), BAD);
        check.due("plug(0, NONE)", x.plug(0, NONE), BAD);
        check.due("from(0, 0, NONE)", x.from(0, 0, NONE), BAD);
        check.due("flood(5, 0, 0)", x.flood(5, 0, 0), Check.BAD_LONG);
        check.due("kicks(1, 0, 1)", x.kicks(1, 0, 1), BAD);
        check.due("write(0, 0)", x.write(0, 0), BAD);
    }

    @Promise(number = 5, says = "With a FAULT there are no CELLS")
    static void withoutTheFaultThereAreCellsAgain(Check check) {
        MineUpside x = Check.mine("w.;l.;");
        x.undo();
        check.due("fault()", x.fault(), NONE);
        check.due("CELLS", x.count(0), 4);
        check.due("cell(2, 0)", x.cell(2, 0), 2);
    }

    // ---- promise 6: cell

    @Promise(number = 6, says = "What it is (what = 0)")
    static void whatACellIs(Check check) {
        MineUpside x = Check.mine("#.lw;wl.#");
        int[] kinds = {0, 1, 2, 3, 3, 2, 1, 0};
        for (int cell = 0; cell < kinds.length; cell++) {
            check.due("cell(" + cell + ", 0)", x.cell(cell, 0), kinds[cell]);
        }
    }

    @Promise(number = 6, says = "CELLS are numbered from 0 on, as they come (0 to 34)")
    static void theLastCellOfTheLargestMineIs34(Check check) {
        MineUpside x = Check.mine(".......;.......;.......;.......;......w");
        check.due("CELLS", x.count(0), 35);
        check.due("cell(33, 0)", x.cell(33, 0), 1);
        check.due("cell(34, 0)", x.cell(34, 0), 3);
        check.due("cell(35, 0)", x.cell(35, 0), BAD);
    }

    @Promise(number = 6, says = "whether all falls UP there (1: 1, 0)")
    static void allFallsUpInRowsLessThanMiddle(Check check) {
        MineUpside x = Check.mine(".#;#.;l#;#w;..");
        for (int middle = 0; middle <= 5; middle++) {
            x.set(0, middle);
            for (int cell = 0; cell < 10; cell++) {
                String call = "MIDDLE " + middle + ": cell(" + cell + ", 1)";
                check.due(call, x.cell(cell, 1), cell / 2 < middle ? 1 : 0);
            }
        }
    }

    @Promise(number = 6, says = "A CELL that is no rock is HELD, if it is a ladder")
    static void aLadderHolds(Check check) {
        MineUpside x = Check.mine(".;l;.;.", 4);
        check.due("UP", x.cell(1, 2), 1);
        x.set(0, 0);
        check.due("DOWN", x.cell(1, 2), 1);
    }

    @Promise(number = 6, says = "if in the way that one falls there is rock")
    static void rockHoldsInTheWayThatOneFalls(Check check) {
        MineUpside up = Check.mine(".;#;.;.", 4);
        check.due("UP, below rock", up.cell(2, 2), 1);
        check.due("UP, below an open CELL", up.cell(3, 2), 0);
        MineUpside down = Check.mine(".;.;#;.", 0);
        check.due("DOWN, over rock", down.cell(1, 2), 1);
        check.due("DOWN, over an open CELL", down.cell(0, 2), 0);
    }

    @Promise(number = 6, says = "if in the way that one falls there is rock")
    static void rockAtTheOtherSideOrBesideDoesNotHold(Check check) {
        check.due("UP, over rock", Check.mine(".;.;#", 3).cell(1, 2), 0);
        check.due("DOWN, below rock", Check.mine("#;.;.", 0).cell(1, 2), 0);
        check.due("UP, between rocks", Check.mine("...;#.#", 3).cell(4, 2), 0);
        check.due("DOWN, between rocks", Check.mine("#.#;...", 0).cell(1, 2), 0);
    }

    @Promise(number = 6, says = "or no CELL; else one falls from it into the next CELL that way")
    static void whereThereIsNoCellOneIsHeld(Check check) {
        MineUpside x = Check.mine(".w.;...;.w.", 3);
        int[] up = {1, 1, 1, 0, 0, 0, 0, 0, 0};
        int[] down = {0, 0, 0, 0, 0, 0, 1, 1, 1};
        for (int cell = 0; cell < 9; cell++) {
            check.due("UP: cell(" + cell + ", 2)", x.cell(cell, 2), up[cell]);
        }
        x.set(0, 0);
        for (int cell = 0; cell < 9; cell++) {
            check.due("DOWN: cell(" + cell + ", 2)", x.cell(cell, 2), down[cell]);
        }
    }

    @Promise(number = 6, says = "into the next CELL that way (also into a ladder; there one is HELD)")
    static void aLadderInTheWayDoesNotHoldTheCellAheadOfIt(Check check) {
        check.due("UP", Check.mine("l;.", 2).cell(1, 2), 0);
        check.due("DOWN", Check.mine(".;l", 0).cell(0, 2), 0);
        check.due("a spring in the way", Check.mine(".;w", 0).cell(0, 2), 0);
    }

    @Promise(number = 6, says = "whether it is HELD (2: 1, 0; rock: 0)")
    static void rockIsNotHeld(Check check) {
        MineUpside x = Check.mine("#;#;.;#");
        for (int cell : new int[] {0, 1, 3}) {
            check.due("cell(" + cell + ", 2)", x.cell(cell, 2), 0);
        }
        check.due("HELD CELLS", x.count(7), 1);
    }

    @Promise(number = 6, says = "of a CELL. BAD.")
    static void noSuchCellIsBad(Check check) {
        MineUpside x = Check.mine("#.l;w.#;..l");
        for (int cell : Check.outside(0, 8)) {
            for (int what = 0; what <= 2; what++) {
                check.due("cell(" + cell + ", " + what + ")", x.cell(cell, what), BAD);
            }
        }
        check.due("cell(34, 0)", x.cell(34, 0), BAD);
    }

    @Promise(number = 6, says = "of a CELL. BAD.")
    static void noSuchWhatOfACellIsBad(Check check) {
        MineUpside x = Check.mine("#.");
        for (int what : Check.outside(0, 2)) {
            check.due("cell(0, " + what + ")", x.cell(0, what), BAD);
            check.due("cell(1, " + what + ")", x.cell(1, what), BAD);
        }
    }

    // ---- promise 7: set

    @Promise(number = 7, says = "MIDDLE (0 to 5; 2 at first)")
    static void middleIs2AtFirst(Check check) {
        check.due("set(0, 2)", new MineUpside().set(0, 2), 2);
        MineUpside x = Check.mine(".;.;.;.");
        check.due("cell(1, 1)", x.cell(1, 1), 1);
        check.due("cell(2, 1)", x.cell(2, 1), 0);
    }

    @Promise(number = 7, says = "MIDDLE (0 to 5; 2 at first)")
    static void middleIs0To5(Check check) {
        MineUpside x = Check.mine(".;.;.;.;.");
        check.due("set(0, 0)", x.set(0, 0), 2);
        check.due("MIDDLE 0: the first ROW", x.cell(0, 1), 0);
        check.due("set(0, 5)", x.set(0, 5), 0);
        check.due("MIDDLE 5: the last ROW", x.cell(4, 1), 1);
        check.due("set(0, 5)", x.set(0, 5), 5);
    }

    @Promise(number = 7, says = "MIDDLE (0 to 5; 2 at first)")
    static void noOtherMiddleIsTaken(Check check) {
        MineUpside x = new MineUpside();
        for (int v : Check.outside(0, 5)) {
            check.due("set(0, " + v + ")", x.set(0, v), BAD);
        }
        check.due("MIDDLE", x.set(0, 2), 2);
    }

    @Promise(number = 7, says = "TURN (0 to 9; 2 at first)")
    static void turnIs2AtFirst(Check check) {
        check.due("set(1, 2)", new MineUpside().set(1, 2), 2);
        check.due("way(0, 1)", Check.mine("l;l", 1).way(0, 1), 3);
    }

    @Promise(number = 7, says = "TURN (0 to 9; 2 at first)")
    static void turnIs0To9(Check check) {
        MineUpside x = Check.mine("l;l", 1);
        check.due("set(1, 0)", x.set(1, 0), 2);
        check.due("TURN 0", x.way(0, 1), 1);
        check.due("set(1, 9)", x.set(1, 9), 0);
        check.due("TURN 9", x.way(0, 1), 10);
        check.due("set(1, 6)", x.set(1, 6), 9);
        check.due("TURN 6", x.way(0, 1), 7);
    }

    @Promise(number = 7, says = "TURN (0 to 9; 2 at first)")
    static void noOtherTurnIsTaken(Check check) {
        MineUpside x = new MineUpside();
        for (int v : Check.outside(0, 9)) {
            check.due("set(1, " + v + ")", x.set(1, v), BAD);
        }
        check.due("TURN", x.set(1, 2), 2);
    }

    @Promise(number = 7, says = "MIDDLE (what = 0), TURN (1): what it was")
    static void middleAndTurnAreSetEachByItself(Check check) {
        MineUpside x = new MineUpside();
        x.set(0, 5);
        check.due("TURN", x.set(1, 4), 2);
        check.due("MIDDLE", x.set(0, 1), 5);
        check.due("TURN", x.set(1, 0), 4);
        check.due("MIDDLE", x.set(0, 0), 1);
    }

    @Promise(number = 7, says = "MIDDLE (what = 0), TURN (1): what it was. BAD.")
    static void nothingElseIsSet(Check check) {
        MineUpside x = new MineUpside();
        for (int what : Check.outside(0, 1)) {
            check.due("set(" + what + ", 0)", x.set(what, 0), BAD);
        }
        check.due("MIDDLE", x.set(0, 2), 2);
        check.due("TURN", x.set(1, 2), 2);
    }
}
