/** Promises 30 to 36: sheet, lose, put, get, copy, write, count. */
public final class SheetsTest {
    private static final Check CHECK = new Check("SheetsTest");
    private static final int LEAST = Integer.MIN_VALUE;

    public static void main(String[] args) {
        sheets();
        losing();
        items();
        refusedItems();
        copies();
        refusedCopies();
        writing();
        counting();
        CHECK.end();
    }

    private static void sheets() {
        MineUpside x = new MineUpside();
        CHECK.due("sheet(-1, 0, 0)", x.sheet(-1, 0, 0), MineUpside.BAD);
        CHECK.due("sheet(4, 0, 0)", x.sheet(4, 0, 0), MineUpside.BAD);
        CHECK.due("sheet(0, -1, 0)", x.sheet(0, -1, 0), MineUpside.BAD);
        CHECK.due("sheet(0, 3, 0)", x.sheet(0, 3, 0), MineUpside.BAD);
        CHECK.due("sheet(0, 0, 49)", x.sheet(0, 0, 49), MineUpside.BAD);
        CHECK.due("BAD comes ahead of SIZE", x.sheet(4, 0, -1), MineUpside.BAD);
        CHECK.due("BAD comes ahead of SIZE", x.sheet(0, 3, -1), MineUpside.BAD);
        CHECK.due("no FINDING", x.count(8), 0);
        CHECK.due("SIZE", x.sheet(0, 0, -1), Check.SIZE);
        CHECK.due("SIZE", x.sheet(0, 0, LEAST), Check.SIZE);
        CHECK.due("FINDING", x.count(8), 5);
        CHECK.due("still LOST", x.lose(0), Check.NULL);
        for (int s = 0; s < 4; s++) {
            CHECK.due("sheet", x.sheet(s, 2, 48), 48);
        }
        CHECK.due("sheet of none", x.sheet(0, 0, 0), 0);
        x.put(1, 2, 0, 7);
        x.put(1, 2, 47, 7);
        CHECK.due("put", x.get(1, 2, 0), 7);
        CHECK.due("put", x.get(1, 2, 47), 7);
        CHECK.due("a new one", x.sheet(1, 2, 48), 48);
        CHECK.due("is 0", x.get(1, 2, 0), 0);
        CHECK.due("is 0", x.get(1, 2, 47), 0);
    }

    private static void losing() {
        MineUpside x = new MineUpside();
        CHECK.due("lose(-1)", x.lose(-1), MineUpside.BAD);
        CHECK.due("lose(4)", x.lose(4), MineUpside.BAD);
        CHECK.due("lose of LOST", x.lose(3), Check.NULL);
        x.sheet(3, 1, 17);
        CHECK.due("lose", x.lose(3), 17);
        CHECK.due("lose again", x.lose(3), Check.NULL);
    }

    private static void items() {
        MineUpside x = new MineUpside();
        x.sheet(0, 0, 2);
        x.sheet(1, 1, 2);
        x.sheet(2, 2, 2);
        CHECK.due("put", x.put(0, 0, 0, 384), 1);
        CHECK.due("byte", x.get(0, 0, 0), -128);
        CHECK.due("put", x.put(0, 0, 1, -129), 1);
        CHECK.due("byte", x.get(0, 0, 1), 127);
        CHECK.due("put", x.put(1, 1, 0, 98304), 1);
        CHECK.due("short", x.get(1, 1, 0), -32768);
        CHECK.due("put", x.put(1, 1, 1, -32769), 1);
        CHECK.due("short", x.get(1, 1, 1), 32767);
        CHECK.due("put", x.put(2, 2, 0, Integer.MAX_VALUE), 1);
        CHECK.due("int", x.get(2, 2, 0), Integer.MAX_VALUE);
        CHECK.due("int", x.get(2, 2, 1), 0);
    }

    private static void refusedItems() {
        MineUpside x = new MineUpside();
        x.sheet(0, 1, 2);
        refusedItem(x, -1, 1, 0, MineUpside.BAD, 0);
        refusedItem(x, 4, 1, 0, MineUpside.BAD, 0);
        refusedItem(x, 0, -1, 0, MineUpside.BAD, 0);
        refusedItem(x, 1, 3, 0, MineUpside.BAD, 0);
        refusedItem(x, 1, 1, 0, Check.NULL, 1);
        refusedItem(x, 0, 0, 5, Check.CAST, 3);
        refusedItem(x, 0, 2, 0, Check.CAST, 3);
        refusedItem(x, 0, 1, 2, Check.INDEX, 2);
        refusedItem(x, 0, 1, -1, Check.INDEX, 2);
        refusedItem(x, 0, 1, Integer.MAX_VALUE, Check.INDEX, 2);
        refusedItem(x, 0, 1, LEAST, Check.INDEX, 2);
        refusedItem(x, 4, 1, 0, MineUpside.BAD, 2);
    }

    private static void refusedItem(MineUpside x, int s, int form, int i, int want, int finding) {
        CHECK.due("put", x.put(s, form, i, 1), want);
        CHECK.due("FINDING of put", x.count(8), finding);
        CHECK.due("get", x.get(s, form, i), LEAST);
        CHECK.due("FINDING of get", x.count(8), finding);
    }

    private static void itemsOf(MineUpside x, int s, int form, int... want) {
        for (int i = 0; i < want.length; i++) {
            CHECK.due("item " + i + " of " + s, x.get(s, form, i), want[i]);
        }
    }

    private static void copies() {
        MineUpside x = new MineUpside();
        x.sheet(0, 0, 5);
        x.sheet(1, 0, 4);
        for (int i = 0; i < 5; i++) {
            x.put(0, 0, i, i + 1);
        }
        CHECK.due("copy", x.copy(0, 2, 1, 1, 3), 1);
        itemsOf(x, 1, 0, 0, 3, 4, 5);
        CHECK.due("onto itself, further", x.copy(0, 0, 0, 1, 4), 1);
        itemsOf(x, 0, 0, 1, 1, 2, 3, 4);
        CHECK.due("onto itself, nearer", x.copy(0, 2, 0, 1, 3), 1);
        itemsOf(x, 0, 0, 1, 2, 3, 4, 4);
        CHECK.due("none at the end", x.copy(0, 5, 1, 4, 0), 1);
        CHECK.due("no FINDING", x.count(8), 0);
    }

    private static void refusedCopies() {
        MineUpside x = new MineUpside();
        x.sheet(0, 0, 5);
        x.sheet(1, 0, 4);
        x.sheet(2, 2, 4);
        CHECK.due("BAD s", x.copy(-1, 0, 0, 0, 1), MineUpside.BAD);
        CHECK.due("BAD t", x.copy(0, 0, 4, 0, 1), MineUpside.BAD);
        CHECK.due("BAD ahead of NULL", x.copy(3, 0, 4, 0, 1), MineUpside.BAD);
        CHECK.due("no FINDING", x.count(8), 0);
        CHECK.due("NULL s", x.copy(3, 0, 0, 0, 1), Check.NULL);
        CHECK.due("NULL t, ahead of INDEX", x.copy(0, -1, 3, 0, 1), Check.NULL);
        CHECK.due("FINDING", x.count(8), 1);
        CHECK.due("STORE, ahead of INDEX", x.copy(0, -1, 2, 0, 1), Check.STORE);
        CHECK.due("STORE of none", x.copy(0, 0, 2, 0, 0), Check.STORE);
        CHECK.due("FINDING", x.count(8), 4);
        int[][] wrong = {{-1, 0, 1}, {0, -1, 1}, {0, 0, -1}, {0, 0, 5}, {5, 0, 1}, {6, 0, 0},
                {0, 5, 0}, {0, 4, 1}, {1, 0, Integer.MAX_VALUE}, {Integer.MAX_VALUE, 0, 1},
                {0, Integer.MAX_VALUE, 1}, {LEAST, LEAST, LEAST}};
        for (int[] w : wrong) {
            CHECK.due("INDEX", x.copy(0, w[0], 1, w[1], w[2]), Check.INDEX);
        }
        CHECK.due("FINDING", x.count(8), 2);
    }

    private static void writing() {
        MineUpside x = Check.mine("..#.");
        CHECK.due("BAD CELL", x.write(4, 0), MineUpside.BAD);
        CHECK.due("BAD CELL", x.write(-1, 0), MineUpside.BAD);
        CHECK.due("BAD SHEET", x.write(0, 4), MineUpside.BAD);
        CHECK.due("BAD SHEET", x.write(0, -1), MineUpside.BAD);
        CHECK.due("no FINDING", x.count(8), 0);
        CHECK.due("NULL", x.write(0, 0), Check.NULL);
        CHECK.due("FINDING", x.count(8), 1);
        x.sheet(0, 0, 6);
        x.put(0, 0, 4, 9);
        CHECK.due("write", x.write(1, 0), 4);
        itemsOf(x, 0, 0, 1, 0, -1, -1, 9, 0);
        x.sheet(1, 2, 2);
        CHECK.due("write", x.write(0, 1), 2);
        itemsOf(x, 1, 2, 0, 1);
        x.sheet(2, 1, 4);
        CHECK.due("from rock", x.write(2, 2), 4);
        itemsOf(x, 2, 1, -1, -1, -1, -1);
        x.sheet(2, 1, 0);
        CHECK.due("no items", x.write(0, 2), 0);
    }

    private static void counting() {
        MineUpside x = Check.mine("w.#;l.w;...");
        x.thing(0, 0);
        x.thing(30, 0);
        x.plumb(3, 1);
        x.copy(0, 0, 0, 0, 0);
        // UP in ROWS 0 and 1: CELL 4 falls, 3 is a ladder; the last ROW is held.
        // WET are 0 and 1, and 5 from which 4 gets WET, from which water falls into 1.
        int[] want = {9, 3, 11, 2, 1, 2, 4, 7, 1};
        for (int what = 0; what <= 8; what++) {
            CHECK.due("count(" + what + ")", x.count(what), want[what]);
        }
        CHECK.due("count(9)", x.count(9), MineUpside.BAD);
        CHECK.due("count(-1)", x.count(-1), MineUpside.BAD);
    }
}
