/** Promises 15 to 18: way, next, race, reach. */
public final class WaysTest {
    private static final Check CHECK = new Check("WaysTest");

    public static void main(String[] args) {
        floors();
        ladders();
        turning();
        falling();
        races();
        wrongNumbers();
        CHECK.end();
    }

    private static void floors() {
        MineUpside x = Check.mine("...#.");
        CHECK.due("way", x.way(0, 2), 2);
        CHECK.due("way back", x.way(2, 0), 2);
        CHECK.due("way to itself", x.way(1, 1), 0);
        CHECK.due("way behind rock", x.way(0, 4), MineUpside.NONE);
        CHECK.due("way to rock", x.way(0, 3), MineUpside.NONE);
        CHECK.due("way from rock", x.way(3, 0), MineUpside.NONE);
        CHECK.due("way from rock to itself", x.way(3, 3), MineUpside.NONE);
        CHECK.due("next", x.next(0, 2), 1);
        CHECK.due("next, not the least beside it", x.next(1, 2), 2);
        CHECK.due("next of itself", x.next(0, 0), MineUpside.NONE);
        CHECK.due("next without WAY", x.next(0, 4), MineUpside.NONE);
        CHECK.due("reach", x.reach(0), 3);
        CHECK.due("reach", x.reach(4), 1);
        CHECK.due("reach of rock", x.reach(3), 0);
        MineUpside rows = Check.mine("..;##;##;..");
        CHECK.due("a ROW's end is no way into the next ROW", rows.way(1, 2), MineUpside.NONE);
        CHECK.due("reach", rows.reach(1), 2);
    }

    private static void ladders() {
        // All falls DOWN: a ladder from CELL 1 to 7; 9 to 11 is the floor.
        MineUpside x = Check.mine(".l.;.l.;.l.;...");
        x.set(0, 0);
        CHECK.due("up the ladder, from below into it", x.way(10, 1), 3);
        CHECK.due("next", x.next(10, 1), 7);
        CHECK.due("down the ladder, out of it", x.way(1, 10), 3);
        CHECK.due("off the ladder one falls", x.way(1, 9), 4);
        CHECK.due("of like ones the least", x.next(1, 9), 0);
        CHECK.due("one cannot go back from the air", x.way(0, 1), 7);
        CHECK.due("all", x.reach(9), 12);
        MineUpside none = Check.mine(".;.;.");
        none.set(0, 0);
        CHECK.due("no ladder: not up", none.way(2, 1), MineUpside.NONE);
        CHECK.due("reach of the floor", none.reach(2), 1);
        MineUpside rock = Check.mine("..;#.;..");
        rock.set(0, 0);
        CHECK.due("not down into rock", rock.way(0, 2), MineUpside.NONE);
        CHECK.due("not up into rock", rock.way(4, 2), MineUpside.NONE);
    }

    private static void turning() {
        MineUpside x = Check.mine("..;.l;l.;..");
        CHECK.due("not from open to open, but by the ladder", x.way(0, 2), 3);
        CHECK.due("into a ladder", x.way(1, 3), 1);
        CHECK.due("over the middle", x.way(3, 5), 3);
        CHECK.due("over the middle, down", x.way(3, 7), 4);
        CHECK.due("back over the middle", x.way(4, 2), 3);
        CHECK.due("up from there", x.way(4, 0), 4);
        x.set(1, 0);
        CHECK.due("TURN 0", x.way(3, 5), 1);
        x.set(1, 9);
        CHECK.due("TURN 9", x.way(3, 5), 10);
        CHECK.due("TURN 9", x.way(1, 7), 12);
        x.set(0, 1);
        CHECK.due("MIDDLE 1", x.way(3, 5), 1);
        CHECK.due("MIDDLE 1", x.way(1, 3), 10);
        x.set(0, 4);
        CHECK.due("MIDDLE 4", x.way(1, 3), 1);
    }

    private static void falling() {
        MineUpside x = Check.mine("...;...;l#.");
        x.set(0, 0);
        CHECK.due("he falls and can do nothing else", x.way(2, 1), MineUpside.NONE);
        CHECK.due("he falls", x.way(2, 8), 2);
        CHECK.due("he is there while he falls", x.way(2, 5), 1);
        CHECK.due("next as he falls", x.next(2, 8), 5);
        CHECK.due("reach as he falls", x.reach(2), 3);
        CHECK.due("held by a ladder", x.way(6, 3), 1);
        CHECK.due("held by rock", x.way(4, 5), 1);
        CHECK.due("next beside it", x.next(4, 3), 3);
        CHECK.due("reach", x.reach(6), 2);
    }

    private static void races() {
        MineUpside x = Check.mine("....#.");
        CHECK.due("the first one", x.race(0, 3, 1), 0);
        CHECK.due("the second one", x.race(0, 3, 2), 1);
        CHECK.due("as long", x.race(0, 2, 1), 2);
        CHECK.due("the same CELL", x.race(1, 1, 1), 2);
        CHECK.due("only the first has one", x.race(5, 0, 5), 0);
        CHECK.due("only the second has one", x.race(5, 0, 1), 1);
        CHECK.due("neither has one", x.race(0, 1, 5), MineUpside.NONE);
        CHECK.due("to rock", x.race(0, 1, 4), MineUpside.NONE);
    }

    private static void wrongNumbers() {
        MineUpside x = Check.mine("....");
        int[] wrong = {-1, 4, 34, 35, Integer.MAX_VALUE, Integer.MIN_VALUE};
        for (int cell : wrong) {
            CHECK.due("way", x.way(cell, 0), MineUpside.BAD);
            CHECK.due("way", x.way(0, cell), MineUpside.BAD);
            CHECK.due("next", x.next(cell, 0), MineUpside.BAD);
            CHECK.due("next", x.next(0, cell), MineUpside.BAD);
            CHECK.due("race", x.race(cell, 0, 0), MineUpside.BAD);
            CHECK.due("race", x.race(0, cell, 0), MineUpside.BAD);
            CHECK.due("race", x.race(0, 0, cell), MineUpside.BAD);
            CHECK.due("reach", x.reach(cell), MineUpside.BAD);
        }
    }
}
