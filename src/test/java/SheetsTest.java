/** Promises 30 to 36: sheet, lose, put, get, copy, write, count. */
public final class SheetsTest {
    private static final int NONE = -1, BAD = -2;
    private static final int LEAST = Check.LEAST_INT;
    private static final String LARGEST = ".......;.......;.......;.......;.......";

    public static void main(String[] args) throws IllegalAccessException {
        Check.run(SheetsTest.class);
    }

    /** A SHEET of a FORM with these items. */
    private static void fill(MineUpside x, int s, int form, int... items) {
        x.sheet(s, form, items.length);
        for (int i = 0; i < items.length; i++) {
            x.put(s, form, i, items[i]);
        }
    }

    private static void itemsOf(Check check, MineUpside x, int s, int form, int... want) {
        for (int i = 0; i < want.length; i++) {
            check.due("item " + i + " of SHEET " + s, x.get(s, form, i), want[i]);
        }
        check.due("no item more in SHEET " + s, x.get(s, form, want.length), LEAST);
    }

    // ---- promise 30: sheet

    @Promise(number = 30, says = "of 0 to 48 items (0 at first)")
    static void aSheetOf0To48Items(Check check) {
        for (int form = 0; form <= 2; form++) {
            MineUpside x = new MineUpside();
            check.due("sheet(0, " + form + ", 0)", x.sheet(0, form, 0), 0);
            check.due("no item", x.get(0, form, 0), LEAST);
            check.due("sheet(3, " + form + ", 48)", x.sheet(3, form, 48), 48);
            check.due("item 47", x.get(3, form, 47), 0);
            check.due("no item 48", x.get(3, form, 48), LEAST);
        }
    }

    @Promise(number = 30, says = "of 0 to 48 items (0 at first)")
    static void itemsAre0AtFirst(Check check) {
        MineUpside x = new MineUpside();
        x.sheet(2, 2, 48);
        for (int i = 0; i < 48; i++) {
            check.due("get(2, 2, " + i + ")", x.get(2, 2, i), 0);
        }
    }

    @Promise(number = 30, says = "A SHEET is a new row of a FORM with n items: n")
    static void aNewRowHasNothingOfTheOldOne(Check check) {
        MineUpside x = new MineUpside();
        fill(x, 1, 2, 7, 7, 7);
        check.due("sheet(1, 2, 3)", x.sheet(1, 2, 3), 3);
        itemsOf(check, x, 1, 2, 0, 0, 0);
        fill(x, 1, 2, 7, 7, 7);
        check.due("sheet(1, 0, 1)", x.sheet(1, 0, 1), 1);
        itemsOf(check, x, 1, 0, 0);
        check.due("sheet(1, 0, 3)", x.sheet(1, 0, 3), 3);
        itemsOf(check, x, 1, 0, 0, 0, 0);
        fill(x, 1, 0, 7, 7, 7);
        x.lose(1);
        x.sheet(1, 0, 3);
        itemsOf(check, x, 1, 0, 0, 0, 0);
    }

    @Promise(number = 30, says = "A SHEET is a new row of a FORM with n items: n")
    static void eachSheetIsByItself(Check check) {
        MineUpside x = new MineUpside();
        for (int s = 0; s <= 3; s++) {
            fill(x, s, 2, s + 1);
        }
        for (int s = 0; s <= 3; s++) {
            itemsOf(check, x, s, 2, s + 1);
        }
    }

    @Promise(number = 30, says = "SHEETS 0 .. 3 are LOST (at first) or a row of a FORM")
    static void noSuchSheetIsMade(Check check) {
        MineUpside x = new MineUpside();
        for (int s : Check.outside(0, 3)) {
            check.due("sheet(" + s + ", 0, 0)", x.sheet(s, 0, 0), BAD);
        }
    }

    @Promise(number = 30, says = "a row of a FORM: 0 bytes, 1 shorts, 2 ints")
    static void noSuchFormIsMade(Check check) {
        MineUpside x = new MineUpside();
        for (int form : Check.outside(0, 2)) {
            check.due("sheet(0, " + form + ", 0)", x.sheet(0, form, 0), BAD);
        }
        check.due("it is LOST", x.lose(0), Check.NULL);
    }

    @Promise(number = 30, says = "BAD: SHEET, FORM, above 48; SIZE.")
    static void above48IsBad(Check check) {
        MineUpside x = new MineUpside();
        check.due("sheet(0, 0, 49)", x.sheet(0, 0, 49), BAD);
        check.due("sheet(0, 2, greatest)", x.sheet(0, 2, Integer.MAX_VALUE), BAD);
        check.due("FINDING", x.count(8), 0);
        check.due("it is LOST", x.lose(0), Check.NULL);
    }

    @Promise(number = 30, says = "5 SIZE: below 0")
    static void below0IsSize(Check check) {
        MineUpside x = new MineUpside();
        check.due("sheet(0, 0, -1)", x.sheet(0, 0, -1), Check.SIZE);
        check.due("FINDING", x.count(8), 5);
        check.due("sheet(3, 2, least)", x.sheet(3, 2, LEAST), Check.SIZE);
        check.due("it is LOST", x.lose(0), Check.NULL);
    }

    @Promise(number = 30, says = "5 SIZE: below 0")
    static void belowZeroTheOldRowStays(Check check) {
        MineUpside x = new MineUpside();
        fill(x, 0, 1, 5, 6);
        check.due("sheet(0, 0, -1)", x.sheet(0, 0, -1), Check.SIZE);
        itemsOf(check, x, 0, 1, 5, 6);
    }

    @Promise(number = 30, says = "BAD: SHEET, FORM, above 48; SIZE.")
    static void badComesAheadOfSize(Check check) {
        MineUpside x = new MineUpside();
        check.due("sheet(4, 0, -1)", x.sheet(4, 0, -1), BAD);
        check.due("sheet(-1, 0, -1)", x.sheet(-1, 0, -1), BAD);
        check.due("sheet(0, 3, -1)", x.sheet(0, 3, -1), BAD);
        check.due("sheet(0, -1, -1)", x.sheet(0, -1, -1), BAD);
        check.due("FINDING", x.count(8), 0);
    }

    // ---- promise 31: lose

    @Promise(number = 31, says = "It is LOST: how many items it had")
    static void aSheetIsLost(Check check) {
        MineUpside x = new MineUpside();
        x.sheet(0, 0, 0);
        x.sheet(3, 1, 48);
        check.due("lose(0) of none", x.lose(0), 0);
        check.due("lose(3) of 48", x.lose(3), 48);
        check.due("get(3, 1, 0)", x.get(3, 1, 0), LEAST);
        check.due("FINDING", x.count(8), 1);
    }

    @Promise(number = 31, says = "It is LOST: how many items it had. BAD; NULL.")
    static void noSuchSheetIsLost(Check check) {
        MineUpside x = new MineUpside();
        for (int s : Check.outside(0, 3)) {
            check.due("lose(" + s + ")", x.lose(s), BAD);
        }
        check.due("FINDING", x.count(8), 0);
    }

    @Promise(number = 31, says = "It is LOST: how many items it had. BAD; NULL.")
    static void aLostSheetIsNotLostAgain(Check check) {
        MineUpside x = new MineUpside();
        check.due("lose(3) at first", x.lose(3), Check.NULL);
        check.due("FINDING", x.count(8), 1);
        x.sheet(3, 1, 17);
        check.due("lose(3)", x.lose(3), 17);
        check.due("lose(3) again", x.lose(3), Check.NULL);
    }

    // ---- promise 32: put

    @Promise(number = 32, says = "Item i, treated as of a FORM, becomes v (the lowest bits that it has): 1")
    static void bytesWrap(Check check) {
        MineUpside x = new MineUpside();
        x.sheet(0, 0, 1);
        int[][] pairs = {{127, 127}, {128, -128}, {255, -1}, {256, 0}, {384, -128}, {-128, -128}, {-129, 127},
            {LEAST, 0}, {Integer.MAX_VALUE, -1}};
        for (int[] pair : pairs) {
            check.due("put(0, 0, 0, " + pair[0] + ")", x.put(0, 0, 0, pair[0]), 1);
            check.due("it is then", x.get(0, 0, 0), pair[1]);
        }
    }

    @Promise(number = 32, says = "Item i, treated as of a FORM, becomes v (the lowest bits that it has): 1")
    static void shortsWrap(Check check) {
        MineUpside x = new MineUpside();
        x.sheet(0, 1, 1);
        int[][] pairs = {{32767, 32767}, {32768, -32768}, {65535, -1}, {65536, 0}, {-32768, -32768}, {-32769, 32767},
            {255, 255}, {LEAST, 0}, {Integer.MAX_VALUE, -1}};
        for (int[] pair : pairs) {
            check.due("put(0, 1, 0, " + pair[0] + ")", x.put(0, 1, 0, pair[0]), 1);
            check.due("it is then", x.get(0, 1, 0), pair[1]);
        }
    }

    @Promise(number = 32, says = "Item i, treated as of a FORM, becomes v (the lowest bits that it has): 1")
    static void intsAreWhole(Check check) {
        MineUpside x = new MineUpside();
        x.sheet(0, 2, 1);
        for (int v : new int[] {65536, -32769, Integer.MAX_VALUE, LEAST + 1, LEAST, -1}) {
            check.due("put(0, 2, 0, " + v + ")", x.put(0, 2, 0, v), 1);
            check.due("it is then", x.get(0, 2, 0), v);
            check.due("FINDING", x.count(8), 0);
        }
    }

    @Promise(number = 32, says = "Item i, treated as of a FORM, becomes v (the lowest bits that it has): 1")
    static void theFirstAndTheLastItemBecome(Check check) {
        MineUpside x = new MineUpside();
        x.sheet(0, 0, 48);
        check.due("put(0, 0, 0, 1)", x.put(0, 0, 0, 1), 1);
        check.due("put(0, 0, 47, 2)", x.put(0, 0, 47, 2), 1);
        check.due("get(0, 0, 0)", x.get(0, 0, 0), 1);
        check.due("get(0, 0, 1)", x.get(0, 0, 1), 0);
        check.due("get(0, 0, 46)", x.get(0, 0, 46), 0);
        check.due("get(0, 0, 47)", x.get(0, 0, 47), 2);
    }

    @Promise(number = 32, says = "BAD; NULL; CAST; INDEX.")
    static void noSuchSheetOrFormIsBadToPut(Check check) {
        MineUpside x = new MineUpside();
        x.sheet(0, 1, 2);
        for (int s : Check.outside(0, 3)) {
            check.due("put(" + s + ", 1, 0, 5)", x.put(s, 1, 0, 5), BAD);
        }
        for (int form : Check.outside(0, 2)) {
            check.due("put(0, " + form + ", 0, 5)", x.put(0, form, 0, 5), BAD);
            check.due("BAD ahead of NULL", x.put(1, form, 0, 5), BAD);
            check.due("BAD ahead of INDEX", x.put(0, form, 2, 5), BAD);
        }
        check.due("FINDING", x.count(8), 0);
        itemsOf(check, x, 0, 1, 0, 0);
    }

    @Promise(number = 32, says = "1 NULL: the SHEET is LOST")
    static void aLostSheetIsNullToPut(Check check) {
        MineUpside x = new MineUpside();
        for (int s = 0; s <= 3; s++) {
            check.due("put(" + s + ", 2, -1, 5)", x.put(s, 2, -1, 5), Check.NULL);
        }
        check.due("FINDING", x.count(8), 1);
    }

    @Promise(number = 32, says = "3 CAST: it has another FORM")
    static void anotherFormIsCastToPut(Check check) {
        for (int form = 0; form <= 2; form++) {
            MineUpside x = new MineUpside();
            x.sheet(0, form, 1);
            for (int other = 0; other <= 2; other++) {
                int want = other == form ? 1 : Check.CAST;
                check.due("put(0, " + other + ", 0, 5) of " + form, x.put(0, other, 0, 5), want);
                check.due("CAST ahead of INDEX", x.put(0, other, 9, 5), other == form ? Check.INDEX : Check.CAST);
            }
        }
    }

    @Promise(number = 32, says = "3 CAST: it has another FORM")
    static void castChangesNoItem(Check check) {
        MineUpside x = new MineUpside();
        fill(x, 0, 1, 8);
        check.due("put(0, 0, 0, 5)", x.put(0, 0, 0, 5), Check.CAST);
        check.due("FINDING", x.count(8), 3);
        itemsOf(check, x, 0, 1, 8);
    }

    @Promise(number = 32, says = "2 INDEX: there is no such item")
    static void noSuchItemIsIndexToPut(Check check) {
        MineUpside x = new MineUpside();
        fill(x, 0, 1, 8, 9);
        for (int i : Check.outside(0, 1)) {
            check.due("put(0, 1, " + i + ", 5)", x.put(0, 1, i, 5), Check.INDEX);
        }
        check.due("FINDING", x.count(8), 2);
        itemsOf(check, x, 0, 1, 8, 9);
        x.sheet(0, 1, 48);
        check.due("put(0, 1, 48, 5)", x.put(0, 1, 48, 5), Check.INDEX);
        x.sheet(0, 1, 0);
        check.due("put(0, 1, 0, 5)", x.put(0, 1, 0, 5), Check.INDEX);
    }

    // ---- promise 33: get

    /** A get that is refused, and the FINDING that is the latest then. */
    private static void refusedGet(Check check, MineUpside x, int s, int form, int i, int finding) {
        String call = "get(" + s + ", " + form + ", " + i + ")";
        check.due(call, x.get(s, form, i), LEAST);
        check.due("FINDING behind " + call, x.count(8), finding);
    }

    @Promise(number = 33, says = "Item i of it")
    static void theFirstAndTheLastItemAreTold(Check check) {
        MineUpside x = new MineUpside();
        x.sheet(3, 1, 48);
        x.put(3, 1, 0, -5);
        x.put(3, 1, 47, 300);
        check.due("get(3, 1, 0)", x.get(3, 1, 0), -5);
        check.due("get(3, 1, 47)", x.get(3, 1, 47), 300);
        check.due("FINDING", x.count(8), 0);
    }

    @Promise(number = 33, says = "BAD: the least int")
    static void noSuchSheetOrFormIsBadToGet(Check check) {
        MineUpside x = new MineUpside();
        x.sheet(0, 1, 2);
        for (int s : Check.outside(0, 3)) {
            refusedGet(check, x, s, 1, 0, 0);
        }
        for (int form : Check.outside(0, 2)) {
            refusedGet(check, x, 0, form, 0, 0);
            refusedGet(check, x, 1, form, 0, 0);
            refusedGet(check, x, 0, form, 2, 0);
        }
    }

    @Promise(number = 33, says = "so are NULL, CAST, INDEX (count() 8 tells)")
    static void nullCastAndIndexToGet(Check check) {
        MineUpside x = new MineUpside();
        x.sheet(0, 1, 2);
        x.sheet(2, 0, 0);
        refusedGet(check, x, 1, 1, 0, 1);
        refusedGet(check, x, 0, 0, 0, 3);
        refusedGet(check, x, 1, 1, 9, 1);
        refusedGet(check, x, 0, 2, 9, 3);
        refusedGet(check, x, 0, 1, 2, 2);
        refusedGet(check, x, 0, 2, 0, 3);
        refusedGet(check, x, 0, 1, -1, 2);
        refusedGet(check, x, 2, 0, 0, 2);
        refusedGet(check, x, 0, 1, LEAST, 2);
        refusedGet(check, x, 0, 1, Integer.MAX_VALUE, 2);
    }

    // ---- promise 34: copy

    @Promise(number = 34, says = "n items of SHEET s, from i on, come to SHEET t (perhaps s, as they were), from j on: 1")
    static void itemsComeToAnotherSheet(Check check) {
        for (int form = 0; form <= 2; form++) {
            MineUpside x = new MineUpside();
            fill(x, 0, form, 1, 2, 3, 4, 5);
            x.sheet(3, form, 4);
            check.due("copy(0, 2, 3, 1, 3)", x.copy(0, 2, 3, 1, 3), 1);
            itemsOf(check, x, 3, form, 0, 3, 4, 5);
            itemsOf(check, x, 0, form, 1, 2, 3, 4, 5);
        }
    }

    @Promise(number = 34, says = "come to SHEET t (perhaps s, as they were)")
    static void itemsComeToTheSameSheetAsTheyWere(Check check) {
        MineUpside x = new MineUpside();
        fill(x, 0, 0, 1, 2, 3, 4, 5);
        check.due("further", x.copy(0, 0, 0, 1, 4), 1);
        itemsOf(check, x, 0, 0, 1, 1, 2, 3, 4);
        check.due("nearer", x.copy(0, 2, 0, 1, 3), 1);
        itemsOf(check, x, 0, 0, 1, 2, 3, 4, 4);
        check.due("where they are", x.copy(0, 0, 0, 0, 5), 1);
        itemsOf(check, x, 0, 0, 1, 2, 3, 4, 4);
    }

    @Promise(number = 34, says = "INDEX: below 0, not so many")
    static void noItemMayBeCopiedFromTheVeryEnd(Check check) {
        MineUpside x = new MineUpside();
        fill(x, 0, 0, 1, 2);
        x.sheet(1, 0, 0);
        check.due("from the end to the end", x.copy(0, 2, 1, 0, 0), 1);
        check.due("none of no items", x.copy(1, 0, 1, 0, 0), 1);
        check.due("to the end", x.copy(1, 0, 0, 2, 0), 1);
        check.due("FINDING", x.count(8), 0);
        itemsOf(check, x, 0, 0, 1, 2);
    }

    @Promise(number = 34, says = "INDEX: below 0, not so many")
    static void allItemsOfTheLargestSheetAreCopied(Check check) {
        MineUpside x = new MineUpside();
        x.sheet(0, 2, 48);
        x.sheet(1, 2, 48);
        x.put(0, 2, 47, 9);
        check.due("copy(0, 0, 1, 0, 48)", x.copy(0, 0, 1, 0, 48), 1);
        check.due("get(1, 2, 47)", x.get(1, 2, 47), 9);
        check.due("copy(0, 0, 1, 0, 49)", x.copy(0, 0, 1, 0, 49), Check.INDEX);
    }

    @Promise(number = 34, says = "BAD: the SHEETS")
    static void noSuchSheetIsCopied(Check check) {
        MineUpside x = new MineUpside();
        x.sheet(0, 0, 2);
        for (int s : Check.outside(0, 3)) {
            check.due("copy(" + s + ", 0, 0, 0, 1)", x.copy(s, 0, 0, 0, 1), BAD);
            check.due("copy(0, 0, " + s + ", 0, 1)", x.copy(0, 0, s, 0, 1), BAD);
            check.due("BAD t ahead of NULL s", x.copy(1, 0, s, 0, 1), BAD);
            check.due("BAD s ahead of NULL t", x.copy(s, 0, 1, 0, 1), BAD);
            check.due("BAD ahead of INDEX", x.copy(s, 0, 0, 0, -1), BAD);
        }
        check.due("FINDING", x.count(8), 0);
    }

    @Promise(number = 34, says = "NULL: s, t")
    static void aLostSheetIsNullToCopy(Check check) {
        MineUpside x = new MineUpside();
        x.sheet(0, 0, 2);
        check.due("s", x.copy(1, 0, 0, 0, 1), Check.NULL);
        check.due("t", x.copy(0, 0, 1, 0, 1), Check.NULL);
        check.due("both", x.copy(1, 0, 2, 0, 1), Check.NULL);
        check.due("s, ahead of INDEX", x.copy(1, -1, 0, 0, 1), Check.NULL);
        check.due("t, ahead of INDEX", x.copy(0, -1, 1, 0, 1), Check.NULL);
        check.due("FINDING", x.count(8), 1);
    }

    @Promise(number = 34, says = "NULL: s, t; STORE; INDEX")
    static void aSheetThatWasLostIsNullAheadOfStore(Check check) {
        MineUpside x = new MineUpside();
        x.sheet(0, 0, 2);
        x.sheet(1, 2, 2);
        x.lose(1);
        check.due("t", x.copy(0, 0, 1, 0, 1), Check.NULL);
        check.due("s", x.copy(1, 0, 0, 0, 1), Check.NULL);
    }

    @Promise(number = 34, says = "4 STORE: unlike FORMS")
    static void unlikeFormsAreStoreToCopy(Check check) {
        for (int form = 0; form <= 2; form++) {
            for (int other = 0; other <= 2; other++) {
                MineUpside x = new MineUpside();
                fill(x, 0, form, 7, 7);
                fill(x, 1, other, 8, 8);
                int want = form == other ? 1 : Check.STORE;
                check.due("copy of " + form + " to " + other, x.copy(0, 0, 1, 0, 1), want);
                check.due("FINDING", x.count(8), form == other ? 0 : 4);
                itemsOf(check, x, 1, other, form == other ? 7 : 8, 8);
            }
        }
    }

    @Promise(number = 34, says = "NULL: s, t; STORE; INDEX")
    static void storeComesAheadOfIndex(Check check) {
        MineUpside x = new MineUpside();
        x.sheet(0, 0, 2);
        x.sheet(1, 2, 2);
        check.due("of no items", x.copy(0, 0, 1, 0, 0), Check.STORE);
        check.due("of too many", x.copy(0, 0, 1, 0, 3), Check.STORE);
        check.due("from below 0", x.copy(0, -1, 1, 0, 1), Check.STORE);
    }

    @Promise(number = 34, says = "INDEX: below 0, not so many")
    static void below0IsIndexToCopy(Check check) {
        MineUpside x = new MineUpside();
        fill(x, 0, 0, 1, 2, 3);
        fill(x, 1, 0, 4, 5, 6);
        for (int below : new int[] {-1, LEAST}) {
            check.due("i", x.copy(0, below, 1, 0, 1), Check.INDEX);
            check.due("j", x.copy(0, 0, 1, below, 1), Check.INDEX);
            check.due("n", x.copy(0, 0, 1, 0, below), Check.INDEX);
            check.due("i, of none", x.copy(0, below, 1, 0, 0), Check.INDEX);
            check.due("j, of none", x.copy(0, 0, 1, below, 0), Check.INDEX);
            check.due("all", x.copy(0, below, 1, below, below), Check.INDEX);
        }
        check.due("i and n", x.copy(0, 3, 1, 0, -1), Check.INDEX);
        check.due("FINDING", x.count(8), 2);
        itemsOf(check, x, 1, 0, 4, 5, 6);
    }

    @Promise(number = 34, says = "INDEX: below 0, not so many")
    static void notSoManyIsIndexToCopy(Check check) {
        MineUpside x = new MineUpside();
        fill(x, 0, 0, 1, 2, 3, 4, 5);
        fill(x, 1, 0, 6, 7, 8, 9);
        int greatest = Integer.MAX_VALUE;
        int[][] wrong = {{0, 0, 5}, {2, 0, 4}, {0, 1, 4}, {5, 0, 1}, {6, 0, 0}, {0, 4, 1}, {0, 5, 0},
            {1, 0, greatest}, {0, 1, greatest}, {greatest, 0, 1}, {0, greatest, 1}, {greatest, greatest, greatest}};
        for (int[] w : wrong) {
            String call = "copy(0, " + w[0] + ", 1, " + w[1] + ", " + w[2] + ")";
            check.due(call, x.copy(0, w[0], 1, w[1], w[2]), Check.INDEX);
        }
        check.due("FINDING", x.count(8), 2);
        itemsOf(check, x, 1, 0, 6, 7, 8, 9);
    }

    // ---- promise 35: write

    @Promise(number = 35, says = "WAYS from a CELL to CELLS 0 on (NONE) come to a SHEET from item 0 on")
    static void waysComeToASheetOfEachForm(Check check) {
        for (int form = 0; form <= 2; form++) {
            MineUpside x = Check.mine("...#.");
            x.sheet(form, form, 5);
            check.due("write(1, " + form + ")", x.write(1, form), 5);
            itemsOf(check, x, form, form, 1, 0, 1, NONE, NONE);
        }
    }

    @Promise(number = 35, says = "as many as there are items and CELLS: how many")
    static void fewerCellsThanItems(Check check) {
        MineUpside x = Check.mine("..");
        fill(x, 0, 2, 9, 9, 9, 9);
        check.due("write(0, 0)", x.write(0, 0), 2);
        itemsOf(check, x, 0, 2, 0, 1, 9, 9);
        x.wipe();
        Check.type(x, LARGEST);
        x.sheet(1, 0, 48);
        x.put(1, 0, 35, 9);
        check.due("write(0, 1) of 35 CELLS to 48 items", x.write(0, 1), 35);
        check.due("get(1, 0, 35)", x.get(1, 0, 35), 9);
    }

    @Promise(number = 35, says = "as many as there are items and CELLS: how many")
    static void fewerItemsThanCells(Check check) {
        MineUpside x = Check.mine("....");
        x.sheet(0, 1, 3);
        check.due("write(0, 0)", x.write(0, 0), 3);
        itemsOf(check, x, 0, 1, 0, 1, 2);
        x.sheet(0, 1, 0);
        check.due("write(0, 0) to no items", x.write(0, 0), 0);
    }

    @Promise(number = 35, says = "WAYS from a CELL to CELLS 0 on (NONE)")
    static void fromRockThereAreNoWays(Check check) {
        MineUpside x = Check.mine(".#.");
        x.sheet(0, 2, 3);
        check.due("write(1, 0)", x.write(1, 0), 3);
        itemsOf(check, x, 0, 2, NONE, NONE, NONE);
    }

    @Promise(number = 35, says = "as many as there are items and CELLS: how many. BAD; NULL.")
    static void noSuchCellIsBadToWrite(Check check) {
        MineUpside x = Check.mine("..");
        x.sheet(0, 0, 2);
        for (int cell : Check.outside(0, 1)) {
            check.due("write(" + cell + ", 0)", x.write(cell, 0), BAD);
            check.due("BAD ahead of NULL", x.write(cell, 1), BAD);
        }
        x.wipe();
        check.due("write(0, 0) without CELLS", x.write(0, 0), BAD);
        check.due("FINDING", x.count(8), 0);
    }

    @Promise(number = 35, says = "as many as there are items and CELLS: how many. BAD; NULL.")
    static void noSuchSheetIsBadToWrite(Check check) {
        MineUpside x = Check.mine("..");
        for (int s : Check.outside(0, 3)) {
            check.due("write(0, " + s + ")", x.write(0, s), BAD);
        }
        check.due("FINDING", x.count(8), 0);
    }

    @Promise(number = 35, says = "as many as there are items and CELLS: how many. BAD; NULL.")
    static void aLostSheetIsNullToWrite(Check check) {
        MineUpside x = Check.mine("..");
        for (int s = 0; s <= 3; s++) {
            check.due("write(0, " + s + ")", x.write(0, s), Check.NULL);
        }
        check.due("FINDING", x.count(8), 1);
    }

    // ---- promise 36: count

    @Promise(number = 36, says = "0 CELLS, 1 ROWS, 2 bytes, 3 THINGS, 4 PLUMBS, 5 springs, 6 WET CELLS, 7 CELLS that are HELD")
    static void eachNumberIsCounted(Check check) {
        MineUpside x = Check.mine("w.#;l.w;...");
        x.thing(0, 0);
        x.thing(30, 0);
        x.plumb(3, 1);
        x.plumb(3, 1);
        x.plumb(3, 1);
        // UP in ROWS 0 and 1: CELL 4 falls, 3 is a ladder; the last ROW is held.
        // WET are 0 and 1, and 5 from which 4 gets WET, from which water falls into 1.
        int[] want = {9, 3, 11, 2, 3, 2, 4, 7};
        for (int what = 0; what <= 7; what++) {
            check.due("count(" + what + ")", x.count(what), want[what]);
        }
    }

    @Promise(number = 36, says = "0 CELLS, 1 ROWS, 2 bytes, 3 THINGS, 4 PLUMBS, 5 springs, 6 WET CELLS, 7 CELLS that are HELD")
    static void theGreatestNumbersAreCounted(Check check) {
        MineUpside x = Check.mine("wwwwwww;wwwwwww;wwwwwww;wwwwwww;wwwwwww");
        for (int i = 0; i < 9; i++) {
            x.thing(0, 0);
            x.plumb(0, 0);
        }
        int[] want = {35, 5, 39, 8, 8, 35, 35, 14};
        for (int what = 0; what <= 7; what++) {
            check.due("count(" + what + ")", x.count(what), want[what]);
        }
        x.wipe();
        Check.type(x, "lllllll;lllllll;lllllll;lllllll;lllllll");
        check.due("35 ladders: count(7)", x.count(7), 35);
        check.due("35 ladders: count(5)", x.count(5), 0);
    }

    @Promise(number = 36, says = "8 the number of the latest FINDING (0 before any)")
    static void theLatestFindingIsCounted(Check check) {
        MineUpside x = Check.mine("..");
        check.due("before any", x.count(8), 0);
        x.lose(0);
        check.due("NULL", x.count(8), 1);
        x.sheet(0, 0, 1);
        x.sheet(1, 1, 1);
        check.due("well answered", x.count(8), 1);
        x.get(0, 0, 1);
        check.due("INDEX", x.count(8), 2);
        x.put(0, 1, 0, 0);
        check.due("CAST", x.count(8), 3);
        x.copy(0, 0, 1, 0, 0);
        check.due("STORE", x.count(8), 4);
        x.sheet(0, 0, -1);
        check.due("SIZE", x.count(8), 5);
        x.read(2);
        check.due("NULL again", x.count(8), 1);
        x.wipe();
        check.due("behind wipe()", x.count(8), 1);
    }

    @Promise(number = 36, says = "8 the number of the latest FINDING (0 before any)")
    static void otherRefusalsAreNoFindings(Check check) {
        MineUpside x = new MineUpside();
        x.undo();
        x.back();
        x.type(256);
        x.lose(4);
        x.get(4, 0, 0);
        x.sheet(0, 0, 49);
        x.way(0, 0);
        for (int i = 0; i < 9; i++) {
            x.thing(0, 0);
            x.plumb(0, 0);
        }
        check.due("count(8)", x.count(8), 0);
    }

    @Promise(number = 36, says = "8 the number of the latest FINDING (0 before any). BAD.")
    static void nothingElseIsCounted(Check check) {
        MineUpside x = Check.mine("w.");
        for (int what : Check.outside(0, 8)) {
            check.due("count(" + what + ")", x.count(what), BAD);
        }
    }

    @Promise(number = 36, says = "FINDINGS (answers -10 less the number; they change nothing but count() 8)")
    static void aFindingIsMinusTenLessItsNumber(Check check) {
        MineUpside x = new MineUpside();
        x.sheet(0, 0, 1);
        x.sheet(1, 1, 1);
        int[] answers = {x.lose(2), x.put(0, 0, 1, 0), x.put(0, 1, 0, 0), x.copy(0, 0, 1, 0, 0), x.sheet(0, 0, -1)};
        for (int number = 1; number <= 5; number++) {
            check.due("FINDING " + number, answers[number - 1], -10 - number);
        }
    }
}
