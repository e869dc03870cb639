/** Promises 21 to 25: plumb, forget, where, hang, from. */
public final class PlumbsTest {
    private static final Check CHECK = new Check("PlumbsTest");

    public static void main(String[] args) {
        plumbs();
        hanging();
        finds();
        wrongFinds();
        CHECK.end();
    }

    private static void plumbs() {
        MineUpside x = new MineUpside();
        CHECK.due("where of none", x.where(), 63);
        CHECK.due("plumb(5, 0)", x.plumb(5, 0), MineUpside.BAD);
        CHECK.due("plumb(-1, 0)", x.plumb(-1, 0), MineUpside.BAD);
        CHECK.due("plumb(0, 2)", x.plumb(0, 2), MineUpside.BAD);
        CHECK.due("plumb(0, -1)", x.plumb(0, -1), MineUpside.BAD);
        CHECK.due("forget of none", x.forget(), 0);
        CHECK.due("plumb(0, 1)", x.plumb(0, 1), 1);
        CHECK.due("0 is not", x.where(), 62);
        CHECK.due("plumb(4, 0)", x.plumb(4, 0), 2);
        CHECK.due("nor is 5", x.where(), 30);
        CHECK.due("plumb(2, 1)", x.plumb(2, 1), 3);
        CHECK.due("3 and 4", x.where(), 24);
        CHECK.due("plumb(3, 1)", x.plumb(3, 1), 4);
        CHECK.due("4", x.where(), 16);
        x.set(0, 0);
        CHECK.due("the MIDDLE itself is not asked", x.where(), 16);
        CHECK.due("plumb(1, 0)", x.plumb(1, 0), 5);
        CHECK.due("none", x.where(), 0);
        for (int i = 6; i <= 8; i++) {
            CHECK.due("plumb", x.plumb(0, 0), i);
        }
        CHECK.due("the ninth", x.plumb(0, 0), MineUpside.FULL);
        CHECK.due("BAD comes ahead of FULL", x.plumb(5, 0), MineUpside.BAD);
        CHECK.due("plumbs", x.count(4), 8);
        CHECK.due("forget", x.forget(), 8);
        CHECK.due("where", x.where(), 63);
        CHECK.due("plumbs", x.count(4), 0);
        CHECK.due("plumb(4, 1)", x.plumb(4, 1), 1);
        CHECK.due("5", x.where(), 32);
    }

    private static void hanging() {
        MineUpside x = new MineUpside();
        CHECK.due("no ROWS", x.hang(), MineUpside.NONE);
        Check.type(x, ".;.;.;.;.");
        CHECK.due("three by three", x.hang(), 2);
        x.plumb(2, 1);
        CHECK.due("of 3, 4, 5: two by one, the least", x.hang(), 3);
        x.plumb(4, 0);
        CHECK.due("of 3, 4", x.hang(), 3);
        x.plumb(3, 0);
        CHECK.due("of 3: all are alike", x.hang(), 0);
        x.forget();
        x.plumb(2, 0);
        CHECK.due("of 0, 1, 2: the least", x.hang(), 0);
        x.forget();
        x.wipe();
        Check.type(x, ".;.");
        CHECK.due("only ROWS that there are", x.hang(), 1);
        x.type(';');
        CHECK.due("a FAULT: no ROWS", x.hang(), MineUpside.NONE);
    }

    private static void fromOf(MineUpside x, int cell, int steps, int... want) {
        CHECK.due("from(" + cell + ", " + steps + ", NONE)", x.from(cell, steps, -1), want.length);
        for (int i = 0; i < want.length; i++) {
            CHECK.due("from(" + cell + ", " + steps + ", " + i + ")", x.from(cell, steps, i), want[i]);
        }
        CHECK.due("from behind the last", x.from(cell, steps, want.length), MineUpside.NONE);
        CHECK.due("from(.., 34)", x.from(cell, steps, 34), MineUpside.NONE);
    }

    private static void finds() {
        MineUpside x = Check.mine("..;.#;..;..;..");
        fromOf(x, 0, 0, 0);
        fromOf(x, 0, 1, 0, 2);
        fromOf(x, 0, 9, 0, 2);
        fromOf(x, 2, 0, 2);
        fromOf(x, 2, 1);
        fromOf(x, 3, 0);
        fromOf(x, 8, 0, 8);
        fromOf(x, 8, 1, 6, 8);
        fromOf(x, 8, 2, 4, 6, 8);
        fromOf(x, 8, 9, 4, 6, 8);
        fromOf(x, 6, 1, 4);
        fromOf(x, 6, 2);
        MineUpside ladder = Check.mine(".;.;l;.");
        ladder.set(0, 0);
        fromOf(ladder, 2, 1, 1, 2);
        fromOf(ladder, 2, 3, 0, 1, 2);
        fromOf(ladder, 3, 3, 3);
    }

    private static void wrongFinds() {
        MineUpside x = Check.mine("..");
        CHECK.due("from(2, 0, -1)", x.from(2, 0, -1), MineUpside.BAD);
        CHECK.due("from(-1, 0, -1)", x.from(-1, 0, -1), MineUpside.BAD);
        CHECK.due("from(0, -1, -1)", x.from(0, -1, -1), MineUpside.BAD);
        CHECK.due("from(0, 10, -1)", x.from(0, 10, -1), MineUpside.BAD);
        CHECK.due("from(0, 0, -2)", x.from(0, 0, -2), MineUpside.BAD);
        CHECK.due("from(0, 0, 35)", x.from(0, 0, 35), MineUpside.BAD);
    }
}
