/** Promises 11 to 14: at, rests, longest, meet. */
public final class FallsTest {
    private static final Check CHECK = new Check("FallsTest");

    public static void main(String[] args) {
        falling();
        ladders();
        nowhere();
        meeting();
        wrongNumbers();
        CHECK.end();
    }

    private static void falling() {
        MineUpside x = Check.mine(".;.;.;.;.");
        x.thing(1, 0);
        x.thing(2, 3);
        x.thing(4, 0);
        x.thing(2, 99);
        CHECK.due("up", x.at(0, 0), 1);
        CHECK.due("up", x.at(0, 1), 0);
        CHECK.due("up, held by no CELL", x.at(0, 99), 0);
        CHECK.due("not there yet", x.at(1, 2), MineUpside.NONE);
        CHECK.due("there", x.at(1, 3), 2);
        CHECK.due("down", x.at(1, 4), 3);
        CHECK.due("down", x.at(1, 5), 4);
        CHECK.due("down", x.at(1, 6), 4);
        CHECK.due("rests", x.rests(1, 0), 4);
        CHECK.due("falls", x.rests(1, 1), 2);
        CHECK.due("rests", x.rests(0, 0), 0);
        CHECK.due("falls", x.rests(0, 1), 1);
        CHECK.due("falls by none", x.rests(2, 1), 0);
        CHECK.due("in the end is behind STEP 99, too", x.rests(3, 0), 4);
        CHECK.due("the longest, of like ones the least", x.longest(), 1);
        x.set(0, 5);
        CHECK.due("all up", x.at(2, 3), 1);
        CHECK.due("all up", x.rests(2, 1), 4);
        CHECK.due("the longest", x.longest(), 2);
        x.set(0, 0);
        CHECK.due("all down", x.rests(0, 0), 4);
        CHECK.due("the longest", x.longest(), 0);
    }

    private static void ladders() {
        MineUpside x = Check.mine(".;#;.;l;.");
        x.thing(2, 0);
        x.thing(0, 0);
        CHECK.due("falls into a ladder", x.at(0, 1), 3);
        CHECK.due("is held there", x.at(0, 2), 3);
        CHECK.due("falls", x.rests(0, 1), 1);
        x.set(0, 0);
        CHECK.due("held by rock", x.at(1, 50), 0);
    }

    private static void nowhere() {
        MineUpside x = Check.mine("#.");
        CHECK.due("longest of none", x.longest(), MineUpside.NONE);
        x.thing(0, 0);
        x.thing(2, 0);
        CHECK.due("rock", x.at(0, 0), MineUpside.NONE);
        CHECK.due("no CELL", x.at(1, 0), MineUpside.NONE);
        CHECK.due("rests", x.rests(0, 0), MineUpside.NONE);
        CHECK.due("falls", x.rests(0, 1), 0);
        CHECK.due("longest", x.longest(), MineUpside.NONE);
        CHECK.due("meet", x.meet(0, 1), MineUpside.NONE);
        x.thing(1, 0);
        CHECK.due("longest", x.longest(), 2);
        x.wipe();
        CHECK.due("longest without CELLS", x.longest(), MineUpside.NONE);
    }

    private static void meeting() {
        MineUpside x = Check.mine("..;..;..;..;..");
        x.set(0, 0);
        x.thing(0, 4);
        x.thing(2, 5);
        x.thing(4, 7);
        x.thing(1, 0);
        x.thing(8, 98);
        x.thing(6, 99);
        CHECK.due("in the air", x.meet(0, 1), 5);
        CHECK.due("on the floor", x.meet(2, 0), 9);
        CHECK.due("beside it", x.meet(0, 3), MineUpside.NONE);
        CHECK.due("as it comes", x.meet(0, 4), 98);
        CHECK.due("no STEP is behind 99", x.meet(0, 5), MineUpside.NONE);
        x.thing(1, 0);
        CHECK.due("at once", x.meet(3, 6), 0);
        CHECK.due("one twice", x.meet(1, 1), MineUpside.BAD);
    }

    private static void wrongNumbers() {
        MineUpside x = Check.mine("..");
        x.thing(0, 0);
        int[] wrong = {-1, 1, 8, Integer.MAX_VALUE, Integer.MIN_VALUE};
        for (int thing : wrong) {
            CHECK.due("at", x.at(thing, 0), MineUpside.BAD);
            CHECK.due("rests", x.rests(thing, 0), MineUpside.BAD);
            CHECK.due("meet", x.meet(thing, 0), MineUpside.BAD);
            CHECK.due("meet", x.meet(0, thing), MineUpside.BAD);
        }
        CHECK.due("at(0, -1)", x.at(0, -1), MineUpside.BAD);
        CHECK.due("at(0, 100)", x.at(0, 100), MineUpside.BAD);
        CHECK.due("rests(0, -1)", x.rests(0, -1), MineUpside.BAD);
        CHECK.due("rests(0, 2)", x.rests(0, 2), MineUpside.BAD);
    }
}
