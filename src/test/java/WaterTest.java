/** Promises 19 and 20: wet, plug. */
public final class WaterTest {
    private static final Check CHECK = new Check("WaterTest");

    public static void main(String[] args) {
        flowing();
        ladders();
        bothSides();
        plugs();
        noPlugs();
        wrongNumbers();
        CHECK.end();
    }

    /** The WET CELLS of a mine, told as 1 and 0. */
    private static void wetOf(MineUpside x, String want) {
        int number = 0;
        for (int cell = 0; cell < want.length(); cell++) {
            CHECK.due("wet(" + cell + ") of " + want, x.wet(cell), want.charAt(cell) - '0');
            number += want.charAt(cell) - '0';
        }
        CHECK.due("WET CELLS of " + want, x.count(6), number);
    }

    private static void flowing() {
        MineUpside x = Check.mine(".w..;....;...#;....");
        x.set(0, 0);
        wetOf(x, "0100" + "0100" + "0100" + "1111");
        MineUpside floor = Check.mine("..w#.;#####");
        floor.set(0, 0);
        wetOf(floor, "11100" + "00000");
        MineUpside edge = Check.mine("w..;#..;...");
        edge.set(0, 0);
        wetOf(edge, "110" + "010" + "111");
        wetOf(Check.mine("#..l"), "0000");
    }

    private static void ladders() {
        MineUpside x = Check.mine("w..;l..;l.#;...");
        x.set(0, 0);
        wetOf(x, "100" + "100" + "100" + "111");
        MineUpside side = Check.mine("wl.;#.#;#.#");
        side.set(0, 0);
        wetOf(side, "110" + "010" + "010");
    }

    private static void bothSides() {
        MineUpside x = Check.mine("...;.w.;.w.;...");
        wetOf(x, "111" + "010" + "010" + "111");
        x.set(0, 1);
        wetOf(x, "000" + "010" + "010" + "111");
        x.set(0, 4);
        wetOf(x, "111" + "010" + "010" + "000");
    }

    private static void plugOf(MineUpside x, int cell, int number, int first, int second) {
        CHECK.due("plug(" + cell + ", NONE)", x.plug(cell, -1), number);
        CHECK.due("plug(" + cell + ", 0)", x.plug(cell, 0), first);
        CHECK.due("plug(" + cell + ", 1)", x.plug(cell, 1), second);
    }

    private static void plugs() {
        MineUpside x = Check.mine("w....");
        plugOf(x, 4, 1, 1, -1);
        plugOf(x, 2, 1, 1, -1);
        plugOf(x, 1, -1, -1, -1);
        plugOf(x, 0, -1, -1, -1);
        MineUpside two = Check.mine("w.l.w");
        plugOf(two, 2, 2, 1, 3);
        MineUpside far = Check.mine("w.....w");
        plugOf(far, 3, 2, 1, 4);
        MineUpside first = Check.mine(".w;.#");
        first.set(0, 0);
        plugOf(first, 2, 1, 0, -1);
        MineUpside both = Check.mine(".w.;.#.;...");
        both.set(0, 0);
        plugOf(both, 7, 2, 0, 2);
        MineUpside adjoining = Check.mine("ww;..;..");
        adjoining.set(0, 0);
        plugOf(adjoining, 4, 2, 2, 3);
        // A plug below makes the water go to the sides.
        MineUpside below = Check.mine(".w.;...;...");
        below.set(0, 0);
        plugOf(below, 6, 2, 3, 7);
        plugOf(below, 4, -1, -1, -1);
        plugOf(below, 7, -1, -1, -1);
    }

    private static void noPlugs() {
        MineUpside x = Check.mine("#w.;#.l");
        x.set(0, 0);
        plugOf(x, 0, 0, -1, -1);
        plugOf(x, 2, 0, -1, -1);
        MineUpside dry = Check.mine("..l#");
        for (int cell = 0; cell < 4; cell++) {
            plugOf(dry, cell, 0, -1, -1);
        }
        // Three ways into the told CELL, none of which can be plugged.
        MineUpside shut = Check.mine("#w#;w.w");
        shut.set(0, 0);
        plugOf(shut, 4, -1, -1, -1);
    }

    private static void wrongNumbers() {
        MineUpside x = Check.mine("w...");
        int[] wrong = {-1, 4, 35, Integer.MAX_VALUE, Integer.MIN_VALUE};
        for (int cell : wrong) {
            CHECK.due("wet", x.wet(cell), MineUpside.BAD);
            CHECK.due("plug", x.plug(cell, -1), MineUpside.BAD);
        }
        CHECK.due("plug(0, -2)", x.plug(0, -2), MineUpside.BAD);
        CHECK.due("plug(0, 2)", x.plug(0, 2), MineUpside.BAD);
    }
}
