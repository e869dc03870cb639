/** Promises 26 to 29: joined, like, flood, kicks. */
public final class ChanceTest {
    private static final Check CHECK = new Check("ChanceTest");

    public static void main(String[] args) {
        joining();
        likeness();
        floods();
        wrongFloods();
        kicking();
        CHECK.end();
    }

    private static void joining() {
        CHECK.due("of none", new MineUpside().joined(), 0);
        CHECK.due("with a FAULT", Check.mine("#.;").joined(), 0);
        CHECK.due("one CELL", Check.mine("w").joined(), 0);
        CHECK.due("both ends", Check.mine("#.").joined(), 2);
        CHECK.due("open and spring", Check.mine(".lw").joined(), 2);
        CHECK.due("turned over", Check.mine("#.l;l.#").joined(), 0);
        CHECK.due("not turned over", Check.mine("#.l;#.l").joined(), 4);
    }

    private static void likeness() {
        MineUpside x = Check.mine("#.#.#.#;.......");
        int[] want = {6, 0, 4, 0, 2, 0};
        for (int by = 1; by <= 6; by++) {
            CHECK.due("like(" + by + ")", x.like(by), want[by - 1]);
        }
        MineUpside short2 = Check.mine("wl;..");
        CHECK.due("like(1)", short2.like(1), 1);
        CHECK.due("not over a ROW's end", short2.like(2), 0);
        CHECK.due("of none", new MineUpside().like(6), 0);
        CHECK.due("like(0)", x.like(0), MineUpside.BAD);
        CHECK.due("like(7)", x.like(7), MineUpside.BAD);
        CHECK.due("like(-1)", x.like(-1), MineUpside.BAD);
    }

    private static void floodOf(MineUpside x, int c, int cell, long above, long below) {
        CHECK.due("flood(" + c + ", " + cell + ") above", x.flood(c, cell, 0), above);
        CHECK.due("flood(" + c + ", " + cell + ") below", x.flood(c, cell, 1), below);
    }

    private static void floods() {
        MineUpside x = Check.mine("w.w#.w");
        floodOf(x, 0, 1, 0, 1);
        floodOf(x, 16, 1, 1, 1);
        floodOf(x, 16, 3, 0, 1);
        floodOf(x, 8, 4, 1, 2);
        floodOf(x, 5, 5, 5, 16);
        floodOf(x, 5, 1, 135, 256);
        floodOf(x, 4, 0, 7, 16);
        MineUpside dry = Check.mine("w.;##;.w");
        dry.set(0, 0);
        floodOf(dry, 8, 0, 1, 2);
        MineUpside open = Check.mine("w;w;.");
        open.set(0, 0);
        floodOf(open, 8, 0, 1, 2);
        floodOf(open, 8, 1, 3, 4);
        floodOf(open, 8, 2, 3, 4);
        MineUpside nine = Check.mine("wwwww;wwww.");
        nine.set(0, 0);
        floodOf(nine, 1, 9, 68719476736L - 38443359375L, 68719476736L);
        floodOf(nine, 15, 9, 68719476735L, 68719476736L);
    }

    private static void wrongFloods() {
        MineUpside x = Check.mine("w.");
        CHECK.due("flood(-1, 0, 0)", x.flood(-1, 0, 0), Check.BAD_LONG);
        CHECK.due("flood(17, 0, 0)", x.flood(17, 0, 0), Check.BAD_LONG);
        CHECK.due("flood(0, 2, 0)", x.flood(0, 2, 0), Check.BAD_LONG);
        CHECK.due("flood(0, -1, 0)", x.flood(0, -1, 0), Check.BAD_LONG);
        CHECK.due("flood(0, 0, 2)", x.flood(0, 0, 2), Check.BAD_LONG);
        CHECK.due("flood(0, 0, -1)", x.flood(0, 0, -1), Check.BAD_LONG);
        MineUpside ten = Check.mine("wwwww;wwwww");
        CHECK.due("ten springs", ten.flood(8, 0, 0), Check.BAD_LONG);
        CHECK.due("ten springs", ten.flood(8, 0, 1), Check.BAD_LONG);
    }

    private static void kicking() {
        // SEED 1 draws 2, SEED 2 draws 1, SEED 9 draws 0.
        MineUpside x = Check.mine("...");
        CHECK.due("behind", x.kicks(1, 1, 1), 2);
        CHECK.due("ahead", x.kicks(2, 1, 1), 0);
        CHECK.due("stays", x.kicks(9, 1, 1), 1);
        CHECK.due("no CELL behind", x.kicks(1, 2, 1), 2);
        CHECK.due("no CELL ahead", x.kicks(2, 0, 1), 0);
        MineUpside rows = Check.mine("..;..");
        rows.set(0, 0);
        CHECK.due("falls", rows.kicks(1, 1, 1), 3);
        CHECK.due("a fall draws no LOT", rows.kicks(1, 0, 2), 3);
        MineUpside rock = Check.mine("#.#");
        CHECK.due("rock behind", rock.kicks(1, 1, 1), 1);
        CHECK.due("rock ahead", rock.kicks(2, 1, 1), 1);
        MineUpside ladder = Check.mine("..;l.;..");
        ladder.set(0, 0);
        CHECK.due("into a ladder, held there", ladder.kicks(9, 0, 2), 2);
        CHECK.due("not into the ROW ahead", rows.kicks(2, 2, 1), 2);
        rows.set(0, 2);
        CHECK.due("not into the ROW behind", rows.kicks(1, 1, 1), 1);
        wrongKicks();
    }

    private static void wrongKicks() {
        MineUpside x = Check.mine("#.");
        CHECK.due("rock", x.kicks(1, 0, 1), MineUpside.BAD);
        CHECK.due("kicks(1, 2, 1)", x.kicks(1, 2, 1), MineUpside.BAD);
        CHECK.due("kicks(1, -1, 1)", x.kicks(1, -1, 1), MineUpside.BAD);
        CHECK.due("kicks(1, 1, 0)", x.kicks(1, 1, 0), MineUpside.BAD);
        CHECK.due("kicks(1, 1, 41)", x.kicks(1, 1, 41), MineUpside.BAD);
        CHECK.due("any SEED", x.kicks(Integer.MIN_VALUE, 1, 40), 1);
    }
}
