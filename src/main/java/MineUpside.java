/** A mine with a middle, from which all falls away on both sides. */
public final class MineUpside {
    public static final int NONE = -1, BAD = -2, NOT = -3, FULL = -4;

    private static final int MOST_BYTES = 39;
    private static final int MOST_ROWS = 5;
    private static final int MOST_WIDE = 7;
    private static final int MOST_CELLS = 35;
    private static final int MOST_THINGS = 8;
    private static final int MOST_STEPS = 100;
    private static final int MOST_PLUMBS = 8;
    private static final int MOST_SPRINGS = 9;
    private static final int MOST_SHEETS = 4;
    private static final int MOST_ITEMS = 48;

    private static final int ROCK = 0, OPEN = 1, LADDER = 2, SPRING = 3;

    /** The four sides of a CELL, in the order of the CELLS that lie there. */
    private static final int OVER = 0, AHEAD = 1, BEHIND = 2, UNDER = 3, SIDES = 4;

    private static final int LEAST_INT = 0x80000000;
    private static final long LEAST_LONG = 0x8000000000000000L;

    private static final int GREATEST_MIDDLE = 5;
    private static final int ALL_MIDDLES = 63;
    private static final int GREATEST_TURN = 9;
    private static final int SIXTEENTHS = 16;

    private static final int BYTES = 0, SHORTS = 1, INTS = 2;

    private static final int NULL = 1, INDEX = 2, CAST = 3, STORE = 4, SIZE = 5;

    /** Stands for "no such set": no set of CELLS has this many bits. */
    private static final long NO_SET = -1L;

    private final int[] text;
    private int bytes;
    private int middle;
    private int turn;
    private final int[] thingCells;
    private final int[] thingSteps;
    private int things;
    private int plumbs;
    private int mayBe;
    private final Sheet[] sheets;
    private int finding;
    private final Plan plan;
    private final Ways ways;

    public MineUpside() {
        text = new int[MOST_BYTES];
        middle = 2;
        turn = 2;
        thingCells = new int[MOST_THINGS];
        thingSteps = new int[MOST_THINGS];
        mayBe = ALL_MIDDLES;
        sheets = new Sheet[MOST_SHEETS];
        for (int s = 0; s < MOST_SHEETS; s++) {
            sheets[s] = new Sheet();
        }
        plan = new Plan();
        ways = new Ways(plan);
        renew();
    }

    // ---- the mine, things

    public int type(int b) {
        if (b < 0 || b > 255) {
            return BAD;
        }
        if (bytes >= MOST_BYTES) {
            return FULL;
        }
        text[bytes] = b;
        bytes++;
        renew();
        return bytes;
    }

    public int wipe() {
        int had = bytes;
        bytes = 0;
        renew();
        return had;
    }

    public int undo() {
        if (bytes <= 0) {
            return NOT;
        }
        bytes--;
        renew();
        return bytes;
    }

    public int fault() {
        return plan.faultPlace;
    }

    public int cell(int cell, int what) {
        if (!plan.isCell(cell) || what < 0 || what > 2) {
            return BAD;
        }
        if (what == 0) {
            return plan.kind(cell);
        }
        return asNumber(has(what == 1 ? plan.ups : plan.held, cell));
    }

    public int set(int what, int v) {
        if (what == 0 && v >= 0 && v <= GREATEST_MIDDLE) {
            int was = middle;
            middle = v;
            renew();
            return was;
        }
        if (what == 1 && v >= 0 && v <= GREATEST_TURN) {
            int was = turn;
            turn = v;
            renew();
            return was;
        }
        return BAD;
    }

    public int thing(int cell, int step) {
        if (cell < 0 || cell >= MOST_CELLS || !isStep(step)) {
            return BAD;
        }
        if (things >= MOST_THINGS) {
            return FULL;
        }
        thingCells[things] = cell;
        thingSteps[things] = step;
        things++;
        return things;
    }

    public int back() {
        if (things <= 0) {
            return NOT;
        }
        things--;
        return things;
    }

    public int read(int s) {
        if (!isSheet(s)) {
            return BAD;
        }
        Sheet sheet = sheets[s];
        if (sheet.lost) {
            return found(NULL);
        }
        int came = 0;
        for (int i = 0; i + 1 < sheet.size && i + 1 < MOST_ITEMS; i += 2) {
            if (thing(sheet.items[i], sheet.items[i + 1]) < 0) {
                return came;
            }
            came++;
        }
        return came;
    }

    // ---- falls

    public int at(int thing, int step) {
        if (!isThing(thing) || !isStep(step)) {
            return BAD;
        }
        if (step < thingSteps[thing]) {
            return NONE;
        }
        return plan.placeBehind(thingCells[thing], step - thingSteps[thing]);
    }

    public int rests(int thing, int what) {
        if (!isThing(thing) || what < 0 || what > 1) {
            return BAD;
        }
        if (what == 0) {
            return plan.placeBehind(thingCells[thing], MOST_ROWS);
        }
        return plan.falls(thingCells[thing]);
    }

    public int longest() {
        int best = NONE;
        int most = NONE;
        for (int i = 0; i < things && i < MOST_THINGS; i++) {
            boolean anywhere = has(plan.hollow, thingCells[i]);
            int falls = plan.falls(thingCells[i]);
            if (anywhere && falls > most) {
                best = i;
                most = falls;
            }
        }
        return best;
    }

    public int meet(int a, int b) {
        if (!isThing(a) || !isThing(b) || a == b) {
            return BAD;
        }
        for (int step = 0; step < MOST_STEPS; step++) {
            int place = at(a, step);
            if (place != NONE && place == at(b, step)) {
                return step;
            }
        }
        return NONE;
    }

    // ---- ways, water

    public int way(int from, int to) {
        if (!plan.isCell(from) || !plan.isCell(to)) {
            return BAD;
        }
        return ways.between(from, to);
    }

    public int next(int from, int to) {
        if (!plan.isCell(from) || !plan.isCell(to)) {
            return BAD;
        }
        int whole = ways.between(from, to);
        if (whole == NONE || whole == 0) {
            return NONE;
        }
        for (int side = 0; side < SIDES; side++) {
            int through = plan.goneTo(from, side);
            int rest = ways.between(through, to);
            if (rest != NONE && plan.moveSteps(from, side, turn) + rest == whole) {
                return through;
            }
        }
        return NONE;
    }

    public int race(int a, int b, int to) {
        if (!plan.isCell(a) || !plan.isCell(b) || !plan.isCell(to)) {
            return BAD;
        }
        int one = ways.between(a, to);
        int other = ways.between(b, to);
        if (one == other) {
            return one == NONE ? NONE : 2;
        }
        if (one == NONE) {
            return 1;
        }
        if (other == NONE) {
            return 0;
        }
        return one < other ? 0 : 1;
    }

    public int reach(int from) {
        if (!plan.isCell(from)) {
            return BAD;
        }
        int reached = 0;
        for (int to = 0; to < plan.cells; to++) {
            if (ways.between(from, to) != NONE) {
                reached++;
            }
        }
        return reached;
    }

    public int wet(int cell) {
        if (!plan.isCell(cell)) {
            return BAD;
        }
        return asNumber(has(plan.wetCells, cell));
    }

    public int plug(int cell, int i) {
        if (!plan.isCell(cell) || i < NONE || i > 1) {
            return BAD;
        }
        long plugs = plan.plugsFor(cell);
        return plugs == NO_SET ? NONE : sizeOrItem(plugs, i);
    }

    // ---- plumbs, finds, chance

    public int plumb(int row, int up) {
        if (row < 0 || row >= MOST_ROWS || up < 0 || up > 1) {
            return BAD;
        }
        if (plumbs >= MOST_PLUMBS) {
            return FULL;
        }
        int hangsUp = middlesUpAt(row);
        mayBe &= up == 1 ? hangsUp : ~hangsUp;
        plumbs++;
        return plumbs;
    }

    public int forget() {
        int had = plumbs;
        plumbs = 0;
        mayBe = ALL_MIDDLES;
        return had;
    }

    public int where() {
        return mayBe;
    }

    public int hang() {
        int best = NONE;
        int least = ALL_MIDDLES;
        for (int row = 0; row < plan.rows; row++) {
            int hangsUp = Integer.bitCount(mayBe & middlesUpAt(row));
            int greater = Math.max(hangsUp, Integer.bitCount(mayBe) - hangsUp);
            if (greater < least) {
                best = row;
                least = greater;
            }
        }
        return best;
    }

    public int from(int cell, int steps, int i) {
        if (!plan.isCell(cell) || steps < 0 || steps > 9 || i < NONE || i >= MOST_CELLS) {
            return BAD;
        }
        long begins = 0L;
        for (int begin = 0; begin < plan.cells; begin++) {
            if (plan.placeBehind(begin, steps) == cell) {
                begins |= bit(begin);
            }
        }
        return sizeOrItem(begins, i);
    }

    public int joined() {
        int otherwise = 0;
        for (int cell = 0; cell < plan.cells; cell++) {
            if (plan.kind(cell) != plan.kind(plan.cells - 1 - cell)) {
                otherwise++;
            }
        }
        return otherwise;
    }

    public int like(int by) {
        if (by < 1 || by >= MOST_WIDE) {
            return BAD;
        }
        int otherwise = 0;
        for (int row = 0; row < plan.rows; row++) {
            int end = (row + 1) * plan.wide;
            for (int cell = row * plan.wide; cell + by < end; cell++) {
                if (plan.kind(cell) != plan.kind(cell + by)) {
                    otherwise++;
                }
            }
        }
        return otherwise;
    }

    public long flood(int c, int cell, int what) {
        if (c < 0 || c > SIXTEENTHS || !plan.isCell(cell) || what < 0 || what > 1
                || Long.bitCount(plan.springs) > MOST_SPRINGS) {
            return LEAST_LONG - BAD;
        }
        // Each spring's water goes its own way, whatever else is WET: so the CELL
        // stays dry just when all springs that get there are dry.
        int getThere = plan.springsThatWet(cell);
        long below = 1L;
        long dry = 1L;
        for (int i = 0; i < getThere && i < MOST_SPRINGS; i++) {
            below *= SIXTEENTHS;
            dry *= SIXTEENTHS - c;
        }
        long above = below - dry;
        // The lower number is a power of 2, so 2 is all that both can share.
        for (int i = 0; i < 4 * MOST_SPRINGS && ((above | below) & 1L) == 0L; i++) {
            above >>= 1;
            below >>= 1;
        }
        return what == 0 ? above : below;
    }

    public int kicks(int seed, int cell, int n) {
        if (!plan.isCell(cell) || !has(plan.hollow, cell) || n < 1 || n > 40) {
            return BAD;
        }
        int place = cell;
        int lots = seed;
        for (int step = 0; step < n; step++) {
            if (has(plan.held, place)) {
                lots = 1103515245 * lots + 12345;
                place = plan.kicked(place, (lots >>> 16) % 3);
            } else {
                place = plan.fallen(place);
            }
        }
        return place;
    }

    // ---- sheets

    public int sheet(int s, int form, int n) {
        if (!isSheet(s) || !isForm(form) || n > MOST_ITEMS) {
            return BAD;
        }
        if (n < 0) {
            return found(SIZE);
        }
        sheets[s].begin(form, n);
        return n;
    }

    public int lose(int s) {
        if (!isSheet(s)) {
            return BAD;
        }
        if (sheets[s].lost) {
            return found(NULL);
        }
        sheets[s].lost = true;
        return sheets[s].size;
    }

    public int put(int s, int form, int i, int v) {
        int refusal = refusalOfItem(s, form, i);
        if (refusal != 0) {
            return refusal;
        }
        sheets[s].store(i, v);
        return 1;
    }

    public int get(int s, int form, int i) {
        if (refusalOfItem(s, form, i) != 0) {
            return LEAST_INT;
        }
        return sheets[s].items[i];
    }

    public int copy(int s, int i, int t, int j, int n) {
        if (!isSheet(s) || !isSheet(t)) {
            return BAD;
        }
        Sheet source = sheets[s];
        Sheet target = sheets[t];
        if (source.lost || target.lost) {
            return found(NULL);
        }
        if (source.form != target.form) {
            return found(STORE);
        }
        if (!source.holds(i, n) || !target.holds(j, n)) {
            return found(INDEX);
        }
        System.arraycopy(source.items, i, target.items, j, n);
        return 1;
    }

    public int write(int cell, int s) {
        if (!plan.isCell(cell) || !isSheet(s)) {
            return BAD;
        }
        Sheet sheet = sheets[s];
        if (sheet.lost) {
            return found(NULL);
        }
        int written = Math.min(sheet.size, plan.cells);
        for (int to = 0; to < written; to++) {
            sheet.store(to, ways.between(cell, to));
        }
        return written;
    }

    public int count(int what) {
        switch (what) {
            case 0: return plan.cells;
            case 1: return plan.rows;
            case 2: return bytes;
            case 3: return things;
            case 4: return plumbs;
            case 5: return Long.bitCount(plan.springs);
            case 6: return Long.bitCount(plan.wetCells);
            case 7: return Long.bitCount(plan.held);
            case 8: return finding;
            default: return BAD;
        }
    }

    public long digest() {
        long h = 17L;
        for (int what = 0; what < 8; what++) {
            h = mixed(h, count(what));
        }
        h = mixed(h, fault());
        for (int cell = 0; cell < plan.cells; cell++) {
            h = mixed(h, cell(cell, 0));
            h = mixed(h, cell(cell, 1));
            h = mixed(h, cell(cell, 2));
            h = mixed(h, reach(cell));
            h = mixed(h, wet(cell));
            h = mixed(h, way(cell, 0));
            h = mixed(h, next(0, cell));
            h = mixed(h, from(cell, 2, NONE));
            h = mixed(h, from(cell, 2, 0));
        }
        for (int thing = 0; thing < things; thing++) {
            h = mixed(h, at(thing, 5));
            h = mixed(h, rests(thing, 0));
            h = mixed(h, rests(thing, 1));
        }
        h = mixed(h, longest());
        h = mixed(h, meet(0, 1));
        h = mixed(h, race(0, 1, 2));
        h = mixed(h, plug(3, NONE));
        h = mixed(h, plug(3, 0));
        h = mixed(h, where());
        h = mixed(h, hang());
        h = mixed(h, joined());
        h = mixed(h, like(1));
        h = mixed(h, flood(5, 3, 0));
        h = mixed(h, flood(5, 3, 1));
        return mixed(h, kicks(7, 0, 9));
    }

    private static long mixed(long h, long more) {
        return 31L * h + more;
    }

    /** What is drawn from the text, MIDDLE and TURN is drawn anew when one of them changes. */
    private void renew() {
        plan.survey(text, bytes, middle);
        ways.renew(turn);
    }

    private boolean isThing(int thing) {
        return thing >= 0 && thing < things && thing < MOST_THINGS;
    }

    private static boolean isStep(int step) {
        return step >= 0 && step < MOST_STEPS;
    }

    private static boolean isSheet(int s) {
        return s >= 0 && s < MOST_SHEETS;
    }

    private static boolean isForm(int form) {
        return form >= BYTES && form <= INTS;
    }

    private int found(int number) {
        finding = number;
        return -10 - number;
    }

    /** The refusal of item i of a SHEET treated as of a FORM; 0: there is none. */
    private int refusalOfItem(int s, int form, int i) {
        if (!isSheet(s) || !isForm(form)) {
            return BAD;
        }
        if (sheets[s].lost) {
            return found(NULL);
        }
        if (sheets[s].form != form) {
            return found(CAST);
        }
        return sheets[s].holds(i, 1) ? 0 : found(INDEX);
    }

    /** The MIDDLES, as bits, with which all falls UP in a ROW: those that are greater. */
    private static int middlesUpAt(int row) {
        return ALL_MIDDLES & ~((2 << row) - 1);
    }

    private static int asNumber(boolean is) {
        return is ? 1 : 0;
    }

    private static long bit(int cell) {
        return 1L << cell;
    }

    private static boolean has(long set, int cell) {
        return cell >= 0 && cell < MOST_CELLS && ((set >>> cell) & 1L) != 0L;
    }

    /** How many CELLS a set has (i = NONE), or its i-th; NONE. */
    private static int sizeOrItem(long set, int i) {
        if (i == NONE) {
            return Long.bitCount(set);
        }
        int ahead = 0;
        for (int cell = 0; cell < MOST_CELLS; cell++) {
            if (has(set, cell)) {
                if (ahead == i) {
                    return cell;
                }
                ahead++;
            }
        }
        return NONE;
    }

    /** THE MINE as its text tells it. Sets of CELLS are longs: bit k stands for CELL k. */
    private static final class Plan {
        int faultPlace;
        int rows;
        int wide;
        int cells;
        /** CELLS that are no rock. */
        long hollow;
        long ladders;
        long springs;
        /** The first and the last CELL of each ROW. */
        long firsts;
        long lasts;
        /** CELLS, rock too, where all falls UP. */
        long ups;
        long held;
        long wetCells;
        /** For each side, CELLS from which a man goes there, or falls there. */
        private final long[] goes;
        /** For each side, CELLS from which that is on the other side of MIDDLE. */
        private final long[] crosses;

        Plan() {
            goes = new long[SIDES];
            crosses = new long[SIDES];
        }

        void survey(int[] text, int bytes, int middle) {
            clear();
            faultPlace = spell(text, bytes);
            if (faultPlace != NONE) {
                clear();
            }
            markRows(middle);
            held = hollow & (ladders | ~loose(hollow));
            wetCells = soaked(hollow, springs);
            markMoves();
        }

        private void clear() {
            rows = 0;
            wide = 0;
            cells = 0;
            hollow = 0L;
            ladders = 0L;
            springs = 0L;
            firsts = 0L;
            lasts = 0L;
            ups = 0L;
        }

        private void markRows(int middle) {
            for (int row = 0; row < rows; row++) {
                int first = row * wide;
                firsts |= bit(first);
                lasts |= bit(first + wide - 1);
                if (row < middle) {
                    ups |= (bit(wide) - 1L) << first;
                }
            }
        }

        private void markMoves() {
            long falling = hollow & ~held;
            long climbOver = held & (hollow << wide) & (ladders | (ladders << wide));
            long climbUnder = held & (hollow >>> wide) & (ladders | (ladders >>> wide));
            goes[OVER] = climbOver | (falling & ups);
            goes[AHEAD] = held & ~firsts & (hollow << 1);
            goes[BEHIND] = held & ~lasts & (hollow >>> 1);
            goes[UNDER] = climbUnder | (falling & ~ups);
            crosses[OVER] = ~ups & (ups << wide);
            crosses[UNDER] = ups & ~(ups >>> wide);
        }

        /** Takes the CELLS from the text as far as it goes on: the FAULT, or NONE. */
        private int spell(int[] text, int bytes) {
            if (bytes == 0) {
                return NONE;
            }
            int inRow = 0;
            for (int place = 0; place < bytes && place < text.length; place++) {
                int b = text[place];
                if (rows >= MOST_ROWS) {
                    return place;
                }
                if (b == ';') {
                    if (!endsRow(inRow)) {
                        return place;
                    }
                    inRow = 0;
                } else {
                    int kind = kindOf(b);
                    if (kind == NONE || inRow >= (rows == 0 ? MOST_WIDE : wide)) {
                        return place;
                    }
                    dig(kind);
                    inRow++;
                }
            }
            return endsRow(inRow) ? NONE : bytes;
        }

        /** Ends a ROW of so many CELLS, if it is long enough. */
        private boolean endsRow(int inRow) {
            if (inRow == 0 || (rows > 0 && inRow < wide)) {
                return false;
            }
            wide = inRow;
            rows++;
            return true;
        }

        private static int kindOf(int b) {
            switch (b) {
                case '#': return ROCK;
                case '.': return OPEN;
                case 'l': return LADDER;
                case 'w': return SPRING;
                default: return NONE;
            }
        }

        private void dig(int kind) {
            if (kind != ROCK) {
                hollow |= bit(cells);
            }
            if (kind == LADDER) {
                ladders |= bit(cells);
            }
            if (kind == SPRING) {
                springs |= bit(cells);
            }
            cells++;
        }

        boolean isCell(int cell) {
            return cell >= 0 && cell < cells && cell < MOST_CELLS;
        }

        int kind(int cell) {
            if (!has(hollow, cell)) {
                return ROCK;
            }
            if (has(ladders, cell)) {
                return LADDER;
            }
            return has(springs, cell) ? SPRING : OPEN;
        }

        /** CELLS of those that are no rock from which one falls where ladders hold nothing. */
        private long loose(long noRock) {
            return noRock & ((ups & (noRock << wide)) | (~ups & (noRock >>> wide)));
        }

        /** Where one is a STEP later who does nothing. */
        int fallen(int cell) {
            if (!has(hollow & ~held, cell)) {
                return cell;
            }
            return has(ups, cell) ? cell - wide : cell + wide;
        }

        /** Where one is so many STEPS behind the one in which he was in a CELL; NONE: NOWHERE. */
        int placeBehind(int cell, int steps) {
            if (!has(hollow, cell)) {
                return NONE;
            }
            int place = cell;
            for (int i = 0; i < steps && i < MOST_ROWS; i++) {
                place = fallen(place);
            }
            return place;
        }

        int falls(int cell) {
            int place = cell;
            int deep = 0;
            for (int i = 0; i < MOST_ROWS && has(hollow & ~held, place); i++) {
                place = fallen(place);
                deep++;
            }
            return deep;
        }

        /** The CELL into which a man goes, or falls, on a side of a CELL; NONE: he can't. */
        int goneTo(int cell, int side) {
            if (side < 0 || side >= SIDES || !has(goes[side], cell)) {
                return NONE;
            }
            switch (side) {
                case OVER: return cell - wide;
                case AHEAD: return cell - 1;
                case BEHIND: return cell + 1;
                default: return cell + wide;
            }
        }

        /** The STEPS that it takes to go there. */
        int moveSteps(int cell, int side, int turn) {
            if (side < 0 || side >= SIDES || !has(crosses[side], cell)) {
                return 1;
            }
            return 1 + turn;
        }

        /** Where a man is whom a LOT of 3 has kicked in a CELL in which he is HELD. */
        int kicked(int cell, int lot) {
            if (lot == 0) {
                return cell;
            }
            int to = goneTo(cell, lot == 1 ? AHEAD : BEHIND);
            return to == NONE ? cell : to;
        }

        /** CELLS that get WET from others, where only those are no rock that are told. */
        long soaked(long noRock, long sources) {
            long loose = loose(noRock);
            long wet = sources & noRock;
            for (int round = 0; round < MOST_CELLS; round++) {
                long falls = wet & loose;
                long stands = wet & ~loose;
                long more = noRock & (((falls & ups) >>> wide) | ((falls & ~ups) << wide)
                        | ((stands & ~firsts) >>> 1) | ((stands & ~lasts) << 1));
                if ((more & ~wet) == 0L) {
                    return wet;
                }
                wet |= more;
            }
            return wet;
        }

        int springsThatWet(int cell) {
            int number = 0;
            for (int spring = 0; spring < cells; spring++) {
                if (has(springs, spring) && has(soaked(hollow, bit(spring)), cell)) {
                    number++;
                }
            }
            return number;
        }

        /** The fewest PLUGS by which a CELL is not WET, of like ones the least row; NO_SET. */
        long plugsFor(int cell) {
            if (keepsDry(0L, cell)) {
                return 0L;
            }
            long may = hollow & ~springs & ~bit(cell);
            for (int one = 0; one < cells; one++) {
                if (has(may, one) && keepsDry(bit(one), cell)) {
                    return bit(one);
                }
            }
            for (int one = 0; one < cells; one++) {
                for (int two = one + 1; two < cells && has(may, one); two++) {
                    if (has(may, two) && keepsDry(bit(one) | bit(two), cell)) {
                        return bit(one) | bit(two);
                    }
                }
            }
            return NO_SET;
        }

        private boolean keepsDry(long plugs, int cell) {
            return !has(soaked(hollow & ~plugs, springs), cell);
        }
    }

    /** WAYS of a man, kept for each CELL that was asked for until THE MINE changes. */
    private static final class Ways {
        private final Plan plan;
        private final int[] steps;
        private long known;
        private int turn;

        Ways(Plan plan) {
            this.plan = plan;
            steps = new int[MOST_CELLS * MOST_CELLS];
        }

        void renew(int newTurn) {
            turn = newTurn;
            known = 0L;
        }

        int between(int from, int to) {
            if (!plan.isCell(from) || !plan.isCell(to)) {
                return NONE;
            }
            if (!has(known, from)) {
                measure(from);
            }
            return steps[from * MOST_CELLS + to];
        }

        private void measure(int from) {
            int start = from * MOST_CELLS;
            for (int to = 0; to < MOST_CELLS; to++) {
                steps[start + to] = NONE;
            }
            if (has(plan.hollow, from)) {
                steps[start + from] = 0;
            }
            // No WAY that is soonest comes into a CELL twice, so it has fewer moves than CELLS.
            boolean sooner = true;
            for (int round = 0; round < MOST_CELLS && sooner; round++) {
                sooner = goOn(start);
            }
            known |= bit(from);
        }

        /** Goes one move on from all CELLS that are reached: whether one is reached sooner. */
        private boolean goOn(int start) {
            boolean sooner = false;
            for (int cell = 0; cell < plan.cells && cell < MOST_CELLS; cell++) {
                int spent = steps[start + cell];
                for (int side = 0; side < SIDES && spent != NONE; side++) {
                    int to = plan.goneTo(cell, side);
                    int sum = spent + plan.moveSteps(cell, side, turn);
                    if (to != NONE && isSooner(sum, steps[start + to])) {
                        steps[start + to] = sum;
                        sooner = true;
                    }
                }
            }
            return sooner;
        }

        private static boolean isSooner(int sum, int known) {
            return known == NONE || sum < known;
        }
    }

    /** A SHEET: its items lie in one row that is made once, whatever FORM and size it has. */
    private static final class Sheet {
        boolean lost;
        int form;
        int size;
        final int[] items;

        Sheet() {
            lost = true;
            items = new int[MOST_ITEMS];
        }

        void begin(int newForm, int newSize) {
            lost = false;
            form = newForm;
            size = newSize;
            for (int i = 0; i < MOST_ITEMS; i++) {
                items[i] = 0;
            }
        }

        /** Whether there are n items from i on. */
        boolean holds(int i, int n) {
            return i >= 0 && n >= 0 && i <= size && n <= size - i;
        }

        void store(int i, int v) {
            if (!holds(i, 1)) {
                return;
            }
            if (form == BYTES) {
                items[i] = (byte) v;
            } else if (form == SHORTS) {
                items[i] = (short) v;
            } else {
                items[i] = v;
            }
        }
    }
}
