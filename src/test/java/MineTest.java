/** Promises 1 to 10: a new object, the text, FAULT, CELLS, set, THINGS. */
public final class MineTest {
    private static final Check CHECK = new Check("MineTest");

    public static void main(String[] args) {
        newObject();
        typing();
        wiping();
        undoing();
        faults();
        cells();
        settings();
        things();
        reading();
        CHECK.end();
    }

    private static void newObject() {
        MineUpside x = new MineUpside();
        for (int what = 0; what <= 8; what++) {
            CHECK.due("count(" + what + ")", x.count(what), 0);
        }
        for (int s = 0; s < 4; s++) {
            CHECK.due("lose", x.lose(s), Check.NULL);
        }
        CHECK.due("MIDDLE at first", x.set(0, 2), 2);
        CHECK.due("TURN at first", x.set(1, 2), 2);
        CHECK.due("fault", x.fault(), MineUpside.NONE);
    }

    private static void typing() {
        MineUpside x = new MineUpside();
        CHECK.due("type(-1)", x.type(-1), MineUpside.BAD);
        CHECK.due("type(256)", x.type(256), MineUpside.BAD);
        CHECK.due("type(max)", x.type(Integer.MAX_VALUE), MineUpside.BAD);
        CHECK.due("type(min)", x.type(Integer.MIN_VALUE), MineUpside.BAD);
        CHECK.due("no byte came", x.count(2), 0);
        for (int i = 1; i <= 39; i++) {
            CHECK.due("type", x.type(i % 2 == 0 ? 0 : 255), i);
        }
        CHECK.due("the 40th", x.type('.'), MineUpside.FULL);
        CHECK.due("BAD comes ahead of FULL", x.type(256), MineUpside.BAD);
        CHECK.due("bytes", x.count(2), 39);
    }

    private static void wiping() {
        MineUpside x = Check.mine("..;..");
        x.thing(0, 0);
        x.plumb(0, 1);
        CHECK.due("wipe", x.wipe(), 5);
        CHECK.due("cells", x.count(0), 0);
        CHECK.due("bytes", x.count(2), 0);
        CHECK.due("things stay", x.count(3), 1);
        CHECK.due("plumbs stay", x.count(4), 1);
        CHECK.due("wipe again", x.wipe(), 0);
    }

    private static void undoing() {
        MineUpside x = Check.mine(".w;");
        CHECK.due("fault ahead", x.fault(), 3);
        CHECK.due("undo", x.undo(), 2);
        CHECK.due("fault", x.fault(), MineUpside.NONE);
        CHECK.due("springs", x.count(5), 1);
        CHECK.due("undo", x.undo(), 1);
        CHECK.due("springs", x.count(5), 0);
        CHECK.due("undo", x.undo(), 0);
        CHECK.due("undo of none", x.undo(), MineUpside.NOT);
    }

    private static void faultOf(String text, int want) {
        MineUpside x = Check.mine(text);
        CHECK.due("fault of " + text, x.fault(), want);
        if (want != MineUpside.NONE) {
            CHECK.due("cells of " + text, x.count(0), 0);
            CHECK.due("rows of " + text, x.count(1), 0);
            CHECK.due("springs of " + text, x.count(5), 0);
            CHECK.due("wet of " + text, x.count(6), 0);
            CHECK.due("held of " + text, x.count(7), 0);
            CHECK.due("cell of " + text, x.cell(0, 0), MineUpside.BAD);
        }
    }

    private static void faults() {
        faultOf("", -1);
        faultOf(".", -1);
        faultOf("#.lw;w.l#", -1);
        faultOf(".......;.......;.......;.......;.......", -1);
        faultOf(";", 0);
        faultOf("x", 0);
        faultOf("W", 0);
        faultOf(".;", 2);
        faultOf(".;;", 2);
        faultOf("..;.", 4);
        faultOf("..;.;..", 4);
        faultOf("..;...;", 5);
        faultOf("........", 7);
        faultOf(".......x", 7);
        faultOf(".......;", 8);
        faultOf(".......;.......;.......;.......;......", 38);
        faultOf(".;.;.;.;.", -1);
        faultOf(".;.;.;.;.;", 10);
        faultOf(".;.;.;.;.;.", 10);
        faultOf(".;.;.;.;.;;", 10);
        faultOf(".;.;.;.;..", 9);
        faultOf("w.x;;;", 2);
        faultOf("ww;w" + (char) 0, 4);
        faultOf("ww;w" + (char) 255, 4);
    }

    private static void cells() {
        MineUpside x = Check.mine("#.l;w.#;..l");
        int[] kinds = {0, 1, 2, 3, 1, 0, 1, 1, 2};
        int[] ups = {1, 1, 1, 1, 1, 1, 0, 0, 0};
        int[] held = {0, 1, 1, 1, 0, 0, 1, 1, 1};
        for (int cell = 0; cell < 9; cell++) {
            CHECK.due("what " + cell, x.cell(cell, 0), kinds[cell]);
            CHECK.due("up " + cell, x.cell(cell, 1), ups[cell]);
            CHECK.due("held " + cell, x.cell(cell, 2), held[cell]);
        }
        CHECK.due("cell(9, 0)", x.cell(9, 0), MineUpside.BAD);
        CHECK.due("cell(-1, 0)", x.cell(-1, 0), MineUpside.BAD);
        CHECK.due("cell(0, 3)", x.cell(0, 3), MineUpside.BAD);
        CHECK.due("cell(0, -1)", x.cell(0, -1), MineUpside.BAD);
        CHECK.due("cell(max, 0)", x.cell(Integer.MAX_VALUE, 0), MineUpside.BAD);
    }

    private static void settings() {
        MineUpside x = Check.mine(".;.;.;.;.");
        CHECK.due("MIDDLE", x.set(0, 5), 2);
        CHECK.due("last row falls up", x.cell(4, 1), 1);
        CHECK.due("first row is held", x.cell(0, 2), 1);
        CHECK.due("MIDDLE", x.set(0, 0), 5);
        CHECK.due("first row falls down", x.cell(0, 1), 0);
        CHECK.due("last row is held", x.cell(4, 2), 1);
        CHECK.due("TURN", x.set(1, 9), 2);
        CHECK.due("TURN", x.set(1, 0), 9);
        CHECK.due("set(0, 6)", x.set(0, 6), MineUpside.BAD);
        CHECK.due("set(0, -1)", x.set(0, -1), MineUpside.BAD);
        CHECK.due("set(1, 10)", x.set(1, 10), MineUpside.BAD);
        CHECK.due("set(1, -1)", x.set(1, -1), MineUpside.BAD);
        CHECK.due("set(2, 0)", x.set(2, 0), MineUpside.BAD);
        CHECK.due("set(-1, 0)", x.set(-1, 0), MineUpside.BAD);
        CHECK.due("MIDDLE unchanged", x.set(0, 1), 0);
        CHECK.due("TURN unchanged", x.set(1, 1), 0);
    }

    private static void things() {
        MineUpside x = new MineUpside();
        CHECK.due("back of none", x.back(), MineUpside.NOT);
        CHECK.due("thing(35, 0)", x.thing(35, 0), MineUpside.BAD);
        CHECK.due("thing(-1, 0)", x.thing(-1, 0), MineUpside.BAD);
        CHECK.due("thing(0, 100)", x.thing(0, 100), MineUpside.BAD);
        CHECK.due("thing(0, -1)", x.thing(0, -1), MineUpside.BAD);
        for (int i = 1; i <= 8; i++) {
            CHECK.due("thing", x.thing(34, 99), i);
        }
        CHECK.due("the ninth", x.thing(0, 0), MineUpside.FULL);
        CHECK.due("BAD comes ahead of FULL", x.thing(35, 0), MineUpside.BAD);
        CHECK.due("back", x.back(), 7);
        CHECK.due("the last is gone", x.at(7, 0), MineUpside.BAD);
        CHECK.due("thing", x.thing(0, 0), 8);
        for (int left = 7; left >= 0; left--) {
            CHECK.due("back", x.back(), left);
        }
        CHECK.due("back of none", x.back(), MineUpside.NOT);
    }

    private static void reading() {
        MineUpside x = Check.mine("..;..");
        CHECK.due("read(4)", x.read(4), MineUpside.BAD);
        CHECK.due("read(-1)", x.read(-1), MineUpside.BAD);
        CHECK.due("no FINDING", x.count(8), 0);
        CHECK.due("read of LOST", x.read(0), Check.NULL);
        CHECK.due("FINDING", x.count(8), 1);
        x.sheet(0, 2, 0);
        CHECK.due("read of no items", x.read(0), 0);
        x.sheet(0, 0, 1);
        CHECK.due("read of half a one", x.read(0), 0);
        x.sheet(0, 0, 2);
        CHECK.due("read of just one", x.read(0), 1);
        CHECK.due("back", x.back(), 0);
        x.sheet(0, 0, 5);
        int[] items = {3, 1, 34, 99, 7};
        for (int i = 0; i < items.length; i++) {
            x.put(0, 0, i, items[i]);
        }
        CHECK.due("read of two whole ones", x.read(0), 2);
        CHECK.due("at(0, 0)", x.at(0, 0), MineUpside.NONE);
        CHECK.due("at(0, 1)", x.at(0, 1), 3);
        x.put(0, 0, 3, 100);
        CHECK.due("read up to a wrong one", x.read(0), 1);
        CHECK.due("things", x.count(3), 3);
        x.sheet(1, 1, 48);
        CHECK.due("read until there are 8", x.read(1), 5);
        CHECK.due("things", x.count(3), 8);
        CHECK.due("read of none more", x.read(1), 0);
    }
}
