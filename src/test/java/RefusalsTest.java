import java.util.List;
import java.util.function.Supplier;
import java.util.function.ToLongFunction;

/** Promises 2 to 37: a call that is refused changes nothing, but for FINDINGS the number of the latest one. */
public final class RefusalsTest {
    private static final int NONE = -1, BAD = -2, NOT = -3, FULL = -4;
    private static final int LEAST = Check.LEAST_INT;
    private static final String SAYS = "They change nothing (FINDINGS but count() 8)";

    public static void main(String[] args) throws IllegalAccessException {
        Check.run(RefusalsTest.class);
    }

    // ---- mines of which something is refused

    private static void fill(MineUpside x, int s, int form, int... items) {
        x.sheet(s, form, items.length);
        for (int i = 0; i < items.length; i++) {
            x.put(s, form, i, items[i]);
        }
    }

    /** SHEETS 0 and 3 are bytes, 1 is ints, 2 is LOST. */
    private static MineUpside withSheets() {
        MineUpside x = new MineUpside();
        x.set(0, 1);
        x.set(1, 3);
        fill(x, 0, 0, 1, 2, 3, 4, 5);
        fill(x, 1, 2, 100000, -7);
        fill(x, 3, 0, 1, 0, 4, 2);
        return x;
    }

    private static MineUpside ordinary() {
        MineUpside x = withSheets();
        Check.type(x, "w.l;#..;..w");
        x.thing(1, 0);
        x.thing(4, 2);
        x.thing(30, 5);
        x.plumb(0, 1);
        x.plumb(3, 0);
        return x;
    }

    private static MineUpside full() {
        MineUpside x = withSheets();
        Check.type(x, "w.....l;.#...l.;..#.l..;...l...;..l...w");
        for (int i = 0; i < 8; i++) {
            x.thing(3 * i, i);
            x.plumb(i / 2, 1);
        }
        return x;
    }

    private static MineUpside withFault() {
        MineUpside x = withSheets();
        Check.type(x, "w.l;#..;..w;");
        x.thing(1, 0);
        return x;
    }

    // ---- how it is looked at

    /** Makes a call that is refused on one of two like objects; they are then to be alike still. */
    private static void refused(Check check, Supplier<MineUpside> made, String call,
            ToLongFunction<MineUpside> answer, long want, int finding) {
        for (int earlier : new int[] {1, 5}) {
            MineUpside asked = made.get();
            MineUpside other = made.get();
            if (earlier == 1) {
                asked.lose(2);
            } else {
                asked.sheet(0, 0, -1);
            }
            check.due(call, answer.applyAsLong(asked), want);
            check.due("count(8) behind " + call, asked.count(8), finding == 0 ? earlier : finding);
            List<Long> seen = Look.at(asked);
            check.holds(call + " changes nothing", seen.equals(Look.at(other)));
        }
    }

    private static void refused(Check check, Supplier<MineUpside> made, String call,
            ToLongFunction<MineUpside> answer, long want) {
        refused(check, made, call, answer, want, want <= -11 && want >= -15 ? (int) (-10 - want) : 0);
    }

    // ---- the mine, things

    @Promise(number = 2, says = SAYS)
    static void typeRefused(Check check) {
        refused(check, RefusalsTest::ordinary, "type(-1)", x -> x.type(-1), BAD);
        refused(check, RefusalsTest::ordinary, "type(256)", x -> x.type(256), BAD);
        refused(check, RefusalsTest::full, "type(46)", x -> x.type('.'), FULL);
        refused(check, RefusalsTest::full, "type(256)", x -> x.type(256), BAD);
    }

    @Promise(number = 4, says = SAYS)
    static void undoRefused(Check check) {
        refused(check, RefusalsTest::withSheets, "undo()", x -> x.undo(), NOT);
    }

    @Promise(number = 6, says = SAYS)
    static void cellRefused(Check check) {
        refused(check, RefusalsTest::ordinary, "cell(9, 0)", x -> x.cell(9, 0), BAD);
        refused(check, RefusalsTest::ordinary, "cell(0, 3)", x -> x.cell(0, 3), BAD);
        refused(check, RefusalsTest::withFault, "cell(0, 0)", x -> x.cell(0, 0), BAD);
    }

    @Promise(number = 7, says = SAYS)
    static void setRefused(Check check) {
        refused(check, RefusalsTest::ordinary, "set(0, 6)", x -> x.set(0, 6), BAD);
        refused(check, RefusalsTest::ordinary, "set(0, -1)", x -> x.set(0, -1), BAD);
        refused(check, RefusalsTest::ordinary, "set(1, 10)", x -> x.set(1, 10), BAD);
        refused(check, RefusalsTest::ordinary, "set(1, -1)", x -> x.set(1, -1), BAD);
        refused(check, RefusalsTest::ordinary, "set(2, 0)", x -> x.set(2, 0), BAD);
        refused(check, RefusalsTest::ordinary, "set(-1, 0)", x -> x.set(-1, 0), BAD);
    }

    @Promise(number = 8, says = SAYS)
    static void thingRefused(Check check) {
        refused(check, RefusalsTest::ordinary, "thing(35, 0)", x -> x.thing(35, 0), BAD);
        refused(check, RefusalsTest::ordinary, "thing(-1, 0)", x -> x.thing(-1, 0), BAD);
        refused(check, RefusalsTest::ordinary, "thing(0, 100)", x -> x.thing(0, 100), BAD);
        refused(check, RefusalsTest::ordinary, "thing(0, -1)", x -> x.thing(0, -1), BAD);
        refused(check, RefusalsTest::full, "thing(0, 0)", x -> x.thing(0, 0), FULL);
    }

    @Promise(number = 9, says = SAYS)
    static void backRefused(Check check) {
        refused(check, RefusalsTest::withSheets, "back()", x -> x.back(), NOT);
    }

    @Promise(number = 10, says = SAYS)
    static void readRefused(Check check) {
        refused(check, RefusalsTest::ordinary, "read(4)", x -> x.read(4), BAD);
        refused(check, RefusalsTest::ordinary, "read(-1)", x -> x.read(-1), BAD);
        refused(check, RefusalsTest::ordinary, "read(2)", x -> x.read(2), Check.NULL);
    }

    @Promise(number = 10, says = "as long as each may be: how many")
    static void readOfNothing(Check check) {
        refused(check, RefusalsTest::full, "read(3)", x -> x.read(3), 0);
        refused(check, RefusalsTest::ordinary, "read(1)", x -> x.read(1), 0);
    }

    // ---- falls

    @Promise(number = 11, says = SAYS)
    static void atRefused(Check check) {
        refused(check, RefusalsTest::ordinary, "at(3, 0)", x -> x.at(3, 0), BAD);
        refused(check, RefusalsTest::ordinary, "at(0, 100)", x -> x.at(0, 100), BAD);
    }

    @Promise(number = 12, says = SAYS)
    static void restsRefused(Check check) {
        refused(check, RefusalsTest::ordinary, "rests(3, 0)", x -> x.rests(3, 0), BAD);
        refused(check, RefusalsTest::ordinary, "rests(0, 2)", x -> x.rests(0, 2), BAD);
    }

    @Promise(number = 14, says = SAYS)
    static void meetRefused(Check check) {
        refused(check, RefusalsTest::ordinary, "meet(1, 1)", x -> x.meet(1, 1), BAD);
        refused(check, RefusalsTest::ordinary, "meet(0, 3)", x -> x.meet(0, 3), BAD);
    }

    // ---- ways, water

    @Promise(number = 15, says = SAYS)
    static void wayRefused(Check check) {
        refused(check, RefusalsTest::ordinary, "way(9, 0)", x -> x.way(9, 0), BAD);
        refused(check, RefusalsTest::withFault, "way(0, 1)", x -> x.way(0, 1), BAD);
    }

    @Promise(number = 16, says = SAYS)
    static void nextRefused(Check check) {
        refused(check, RefusalsTest::ordinary, "next(0, 9)", x -> x.next(0, 9), BAD);
        refused(check, RefusalsTest::withFault, "next(0, 1)", x -> x.next(0, 1), BAD);
    }

    @Promise(number = 17, says = SAYS)
    static void raceRefused(Check check) {
        refused(check, RefusalsTest::ordinary, "race(0, 1, 9)", x -> x.race(0, 1, 9), BAD);
        refused(check, RefusalsTest::withFault, "race(0, 1, 2)", x -> x.race(0, 1, 2), BAD);
    }

    @Promise(number = 18, says = SAYS)
    static void reachRefused(Check check) {
        refused(check, RefusalsTest::ordinary, "reach(9)", x -> x.reach(9), BAD);
        refused(check, RefusalsTest::withFault, "reach(0)", x -> x.reach(0), BAD);
    }

    @Promise(number = 19, says = SAYS)
    static void wetRefused(Check check) {
        refused(check, RefusalsTest::ordinary, "wet(9)", x -> x.wet(9), BAD);
        refused(check, RefusalsTest::withFault, "wet(0)", x -> x.wet(0), BAD);
    }

    @Promise(number = 20, says = SAYS)
    static void plugRefused(Check check) {
        refused(check, RefusalsTest::ordinary, "plug(9, NONE)", x -> x.plug(9, NONE), BAD);
        refused(check, RefusalsTest::ordinary, "plug(1, 2)", x -> x.plug(1, 2), BAD);
        refused(check, RefusalsTest::withFault, "plug(0, 0)", x -> x.plug(0, 0), BAD);
    }

    // ---- plumbs, finds, chance

    @Promise(number = 21, says = SAYS)
    static void plumbRefused(Check check) {
        refused(check, RefusalsTest::ordinary, "plumb(5, 0)", x -> x.plumb(5, 0), BAD);
        refused(check, RefusalsTest::ordinary, "plumb(-1, 1)", x -> x.plumb(-1, 1), BAD);
        refused(check, RefusalsTest::ordinary, "plumb(2, 2)", x -> x.plumb(2, 2), BAD);
        refused(check, RefusalsTest::ordinary, "plumb(2, -1)", x -> x.plumb(2, -1), BAD);
        refused(check, RefusalsTest::full, "plumb(0, 0)", x -> x.plumb(0, 0), FULL);
    }

    @Promise(number = 25, says = SAYS)
    static void fromRefused(Check check) {
        refused(check, RefusalsTest::ordinary, "from(9, 0, 0)", x -> x.from(9, 0, 0), BAD);
        refused(check, RefusalsTest::ordinary, "from(0, 10, 0)", x -> x.from(0, 10, 0), BAD);
        refused(check, RefusalsTest::ordinary, "from(0, 0, 35)", x -> x.from(0, 0, 35), BAD);
    }

    @Promise(number = 27, says = SAYS)
    static void likeRefused(Check check) {
        refused(check, RefusalsTest::ordinary, "like(0)", x -> x.like(0), BAD);
        refused(check, RefusalsTest::ordinary, "like(7)", x -> x.like(7), BAD);
    }

    @Promise(number = 28, says = SAYS)
    static void floodRefused(Check check) {
        refused(check, RefusalsTest::ordinary, "flood(17, 0, 0)", x -> x.flood(17, 0, 0), Check.BAD_LONG);
        refused(check, RefusalsTest::ordinary, "flood(0, 9, 0)", x -> x.flood(0, 9, 0), Check.BAD_LONG);
        refused(check, RefusalsTest::ordinary, "flood(0, 0, 2)", x -> x.flood(0, 0, 2), Check.BAD_LONG);
    }

    @Promise(number = 29, says = SAYS)
    static void kicksRefused(Check check) {
        refused(check, RefusalsTest::ordinary, "kicks(1, 3, 1)", x -> x.kicks(1, 3, 1), BAD);
        refused(check, RefusalsTest::ordinary, "kicks(1, 0, 41)", x -> x.kicks(1, 0, 41), BAD);
    }

    // ---- sheets

    @Promise(number = 30, says = SAYS)
    static void sheetRefused(Check check) {
        refused(check, RefusalsTest::ordinary, "sheet(4, 0, 1)", x -> x.sheet(4, 0, 1), BAD);
        refused(check, RefusalsTest::ordinary, "sheet(0, 3, 1)", x -> x.sheet(0, 3, 1), BAD);
        refused(check, RefusalsTest::ordinary, "sheet(0, 0, 49)", x -> x.sheet(0, 0, 49), BAD);
        refused(check, RefusalsTest::ordinary, "sheet(2, 0, 49)", x -> x.sheet(2, 0, 49), BAD);
        refused(check, RefusalsTest::ordinary, "sheet(1, 0, -1)", x -> x.sheet(1, 0, -1), Check.SIZE);
        refused(check, RefusalsTest::ordinary, "sheet(2, 0, -1)", x -> x.sheet(2, 0, -1), Check.SIZE);
    }

    @Promise(number = 31, says = SAYS)
    static void loseRefused(Check check) {
        refused(check, RefusalsTest::ordinary, "lose(4)", x -> x.lose(4), BAD);
        refused(check, RefusalsTest::ordinary, "lose(2)", x -> x.lose(2), Check.NULL);
    }

    @Promise(number = 32, says = SAYS)
    static void putRefused(Check check) {
        refused(check, RefusalsTest::ordinary, "put(4, 0, 0, 9)", x -> x.put(4, 0, 0, 9), BAD);
        refused(check, RefusalsTest::ordinary, "put(0, 3, 0, 9)", x -> x.put(0, 3, 0, 9), BAD);
        refused(check, RefusalsTest::ordinary, "put(2, 0, 0, 9)", x -> x.put(2, 0, 0, 9), Check.NULL);
        refused(check, RefusalsTest::ordinary, "put(0, 1, 0, 9)", x -> x.put(0, 1, 0, 9), Check.CAST);
        refused(check, RefusalsTest::ordinary, "put(0, 0, 5, 9)", x -> x.put(0, 0, 5, 9), Check.INDEX);
        refused(check, RefusalsTest::ordinary, "put(0, 0, -1, 9)", x -> x.put(0, 0, -1, 9), Check.INDEX);
    }

    @Promise(number = 33, says = SAYS)
    static void getRefused(Check check) {
        refused(check, RefusalsTest::ordinary, "get(4, 0, 0)", x -> x.get(4, 0, 0), LEAST);
        refused(check, RefusalsTest::ordinary, "get(0, 3, 0)", x -> x.get(0, 3, 0), LEAST);
        refused(check, RefusalsTest::ordinary, "get(2, 0, 0)", x -> x.get(2, 0, 0), LEAST, 1);
        refused(check, RefusalsTest::ordinary, "get(0, 1, 0)", x -> x.get(0, 1, 0), LEAST, 3);
        refused(check, RefusalsTest::ordinary, "get(0, 0, 5)", x -> x.get(0, 0, 5), LEAST, 2);
    }

    @Promise(number = 34, says = SAYS)
    static void copyRefused(Check check) {
        refused(check, RefusalsTest::ordinary, "copy(4, 0, 0, 0, 1)", x -> x.copy(4, 0, 0, 0, 1), BAD);
        refused(check, RefusalsTest::ordinary, "copy(0, 0, 4, 0, 1)", x -> x.copy(0, 0, 4, 0, 1), BAD);
        refused(check, RefusalsTest::ordinary, "copy(0, 0, 2, 0, 1)", x -> x.copy(0, 0, 2, 0, 1), Check.NULL);
        refused(check, RefusalsTest::ordinary, "copy(2, 0, 0, 0, 1)", x -> x.copy(2, 0, 0, 0, 1), Check.NULL);
        refused(check, RefusalsTest::ordinary, "copy(0, 0, 1, 0, 1)", x -> x.copy(0, 0, 1, 0, 1), Check.STORE);
        refused(check, RefusalsTest::ordinary, "copy(0, 0, 3, 0, 5)", x -> x.copy(0, 0, 3, 0, 5), Check.INDEX);
        refused(check, RefusalsTest::ordinary, "copy(0, 4, 3, 0, 2)", x -> x.copy(0, 4, 3, 0, 2), Check.INDEX);
        refused(check, RefusalsTest::ordinary, "copy(0, 0, 0, 1, 5)", x -> x.copy(0, 0, 0, 1, 5), Check.INDEX);
    }

    @Promise(number = 35, says = SAYS)
    static void writeRefused(Check check) {
        refused(check, RefusalsTest::ordinary, "write(9, 0)", x -> x.write(9, 0), BAD);
        refused(check, RefusalsTest::ordinary, "write(0, 4)", x -> x.write(0, 4), BAD);
        refused(check, RefusalsTest::ordinary, "write(0, 2)", x -> x.write(0, 2), Check.NULL);
        refused(check, RefusalsTest::withFault, "write(0, 0)", x -> x.write(0, 0), BAD);
    }

    @Promise(number = 36, says = SAYS)
    static void countRefused(Check check) {
        refused(check, RefusalsTest::ordinary, "count(9)", x -> x.count(9), BAD);
        refused(check, RefusalsTest::ordinary, "count(-1)", x -> x.count(-1), BAD);
    }

    @Promise(number = 37, says = SAYS)
    static void refusalsWithinADigest(Check check) {
        MineUpside told = withSheets();
        long digest = told.digest();
        refused(check, RefusalsTest::withSheets, "digest()", x -> x.digest(), digest, 0);
    }
}
