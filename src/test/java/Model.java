import java.math.BigInteger;
import java.util.ArrayList;
import java.util.Arrays;
import java.util.List;
import java.util.TreeSet;

/**
 * The document once more, written apart from the class and as plainly as it goes: rows of
 * characters, moves found anew at each call, chances added up over all ways to flow.
 */
final class Model {
    private static final int NONE = -1, BAD = -2, NOT = -3, FULL = -4;

    private final StringBuilder text = new StringBuilder();
    private int middle = 2;
    private int turn = 2;
    private final List<int[]> things = new ArrayList<>();
    private final List<int[]> plumbs = new ArrayList<>();
    private final int[] forms = new int[4];
    private final int[][] sheets = new int[4][];
    private int finding;

    private boolean outside(int number, int least, int greatest) {
        return number < least || number > greatest;
    }

    private boolean noCell(int cell) {
        return outside(cell, 0, all().length() - 1);
    }

    // ---- the text

    int type(int b) {
        if (outside(b, 0, 255)) return BAD;
        if (text.length() == 39) return FULL;
        text.append((char) b);
        return text.length();
    }

    int wipe() {
        int had = text.length();
        text.setLength(0);
        return had;
    }

    int undo() {
        if (text.length() == 0) return NOT;
        text.setLength(text.length() - 1);
        return text.length();
    }

    int fault() {
        if (text.length() == 0) return NONE;
        String[] rows = text.toString().split(";", -1);
        int place = 0;
        for (int r = 0; r < rows.length; r++) {
            if (r == 5) return place;
            int most = r == 0 ? 7 : rows[0].length();
            for (int c = 0; c < rows[r].length(); c++) {
                if (c == most || "#.lw".indexOf(rows[r].charAt(c)) < 0) return place + c;
            }
            place += rows[r].length();
            if (rows[r].isEmpty() || (r > 0 && rows[r].length() < most)) return place;
            place++;
        }
        return NONE;
    }

    private String[] rows() {
        return fault() != NONE || text.length() == 0 ? new String[0] : text.toString().split(";");
    }

    private String all() {
        return String.join("", rows());
    }

    private int wide() {
        return rows().length == 0 ? 1 : rows()[0].length();
    }

    // ---- falls

    private boolean falling(String cells, int cell, boolean laddersHold) {
        if (laddersHold && cells.charAt(cell) == 'l') return false;
        int to = below(cell);
        return to >= 0 && to < cells.length() && cells.charAt(to) != '#' && cells.charAt(cell) != '#';
    }

    private boolean up(int cell) {
        return cell / wide() < middle;
    }

    private int below(int cell) {
        return up(cell) ? cell - wide() : cell + wide();
    }

    private boolean rock(int cell) {
        return all().charAt(cell) == '#';
    }

    private boolean held(int cell) {
        return !rock(cell) && !falling(all(), cell, true);
    }

    private int fallen(int cell, int steps) {
        if (noCell(cell) || rock(cell)) return NONE;
        int place = cell;
        for (int i = 0; i < steps && !held(place); i++) place = below(place);
        return place;
    }

    int cell(int cell, int what) {
        if (noCell(cell) || outside(what, 0, 2)) return BAD;
        if (what == 0) return "#.lw".indexOf(all().charAt(cell));
        return (what == 1 ? up(cell) : held(cell)) ? 1 : 0;
    }

    int set(int what, int v) {
        if (outside(what, 0, 1) || outside(v, 0, what == 0 ? 5 : 9)) return BAD;
        int was = what == 0 ? middle : turn;
        if (what == 0) middle = v;
        else turn = v;
        return was;
    }

    int thing(int cell, int step) {
        if (outside(cell, 0, 34) || outside(step, 0, 99)) return BAD;
        if (things.size() == 8) return FULL;
        things.add(new int[] {cell, step});
        return things.size();
    }

    int back() {
        if (things.isEmpty()) return NOT;
        things.remove(things.size() - 1);
        return things.size();
    }

    int read(int s) {
        if (outside(s, 0, 3)) return BAD;
        if (sheets[s] == null) return found(1);
        int came = 0;
        while (2 * came + 1 < sheets[s].length && thing(sheets[s][2 * came], sheets[s][2 * came + 1]) > 0) came++;
        return came;
    }

    int at(int thing, int step) {
        if (outside(thing, 0, things.size() - 1) || outside(step, 0, 99)) return BAD;
        int since = step - things.get(thing)[1];
        return since < 0 ? NONE : fallen(things.get(thing)[0], since);
    }

    int rests(int thing, int what) {
        if (outside(thing, 0, things.size() - 1) || outside(what, 0, 1)) return BAD;
        int begin = things.get(thing)[0];
        int end = fallen(begin, 1000);
        if (what == 0) return end;
        return end == NONE ? 0 : Math.abs(end - begin) / wide();
    }

    int longest() {
        int best = NONE;
        for (int i = 0; i < things.size(); i++) {
            if (rests(i, 0) != NONE && (best == NONE || rests(i, 1) > rests(best, 1))) best = i;
        }
        return best;
    }

    int meet(int a, int b) {
        if (outside(a, 0, things.size() - 1) || outside(b, 0, things.size() - 1) || a == b) return BAD;
        for (int step = 0; step <= 99; step++) {
            if (at(a, step) >= 0 && at(a, step) == at(b, step)) return step;
        }
        return NONE;
    }

    // ---- ways

    /** The STEPS of a move of a man from one CELL right into another; 0: there is none. */
    private int move(int from, int to) {
        if (rock(from) || rock(to) || from == to) return 0;
        if (!held(from)) return below(from) == to ? 1 : 0;
        int down = to / wide() - from / wide();
        int aside = to % wide() - from % wide();
        if (down == 0 && Math.abs(aside) == 1) return 1;
        boolean ladder = all().charAt(from) == 'l' || all().charAt(to) == 'l';
        if (aside != 0 || Math.abs(down) != 1 || !ladder) return 0;
        return up(from) == up(to) ? 1 : 1 + turn;
    }

    /** STEPS from all CELLS to all CELLS, by going through one CELL more at a time. */
    private int[][] table() {
        int n = all().length();
        int far = 1_000_000;
        int[][] d = new int[n][n];
        for (int a = 0; a < n; a++) {
            for (int b = 0; b < n; b++) d[a][b] = move(a, b) == 0 ? far : move(a, b);
            if (!rock(a)) d[a][a] = 0;
        }
        for (int k = 0; k < n; k++) {
            for (int a = 0; a < n; a++) {
                for (int b = 0; b < n; b++) d[a][b] = Math.min(d[a][b], d[a][k] + d[k][b]);
            }
        }
        for (int[] row : d) {
            for (int b = 0; b < n; b++) row[b] = row[b] >= far ? NONE : row[b];
        }
        return d;
    }

    int way(int from, int to) {
        return noCell(from) || noCell(to) ? BAD : table()[from][to];
    }

    int next(int from, int to) {
        if (noCell(from) || noCell(to)) return BAD;
        int[][] d = table();
        for (int through = 0; through < d.length && d[from][to] > 0; through++) {
            int first = move(from, through);
            if (first > 0 && d[through][to] >= 0 && first + d[through][to] == d[from][to]) return through;
        }
        return NONE;
    }

    int race(int a, int b, int to) {
        if (noCell(a) || noCell(b) || noCell(to)) return BAD;
        int one = way(a, to);
        int other = way(b, to);
        if (one == NONE && other == NONE) return NONE;
        if (one == other) return 2;
        return other == NONE || (one != NONE && one < other) ? 0 : 1;
    }

    int reach(int from) {
        if (noCell(from)) return BAD;
        int number = 0;
        for (int steps : table()[from]) number += steps == NONE ? 0 : 1;
        return number;
    }

    // ---- water

    private void flow(String cells, int cell, TreeSet<Integer> wet) {
        if (!wet.add(cell)) return;
        if (falling(cells, cell, false)) {
            flow(cells, below(cell), wet);
            return;
        }
        for (int to : new int[] {cell - 1, cell + 1}) {
            boolean there = to >= 0 && to < cells.length() && to / wide() == cell / wide();
            if (there && cells.charAt(to) != '#') flow(cells, to, wet);
        }
    }

    private TreeSet<Integer> wetOf(String cells) {
        TreeSet<Integer> wet = new TreeSet<>();
        for (int cell = 0; cell < cells.length(); cell++) {
            if (cells.charAt(cell) == 'w') flow(cells, cell, wet);
        }
        return wet;
    }

    int wet(int cell) {
        if (noCell(cell)) return BAD;
        return wetOf(all()).contains(cell) ? 1 : 0;
    }

    private boolean dryBy(int cell, int... plugs) {
        StringBuilder cells = new StringBuilder(all());
        for (int plug : plugs) {
            if (plug == cell || "#w".indexOf(cells.charAt(plug)) >= 0) return false;
            cells.setCharAt(plug, '#');
        }
        return !wetOf(cells.toString()).contains(cell);
    }

    private int[] plugs(int cell) {
        int n = all().length();
        if (dryBy(cell)) return new int[0];
        for (int a = 0; a < n; a++) {
            if (dryBy(cell, a)) return new int[] {a};
        }
        for (int a = 0; a < n; a++) {
            for (int b = a + 1; b < n; b++) {
                if (dryBy(cell, a, b)) return new int[] {a, b};
            }
        }
        return null;
    }

    int plug(int cell, int i) {
        if (noCell(cell) || outside(i, -1, 1)) return BAD;
        int[] plugs = plugs(cell);
        if (plugs == null) return NONE;
        if (i == NONE) return plugs.length;
        return i < plugs.length ? plugs[i] : NONE;
    }

    // ---- plumbs, finds

    int plumb(int row, int up) {
        if (outside(row, 0, 4) || outside(up, 0, 1)) return BAD;
        if (plumbs.size() == 8) return FULL;
        plumbs.add(new int[] {row, up});
        return plumbs.size();
    }

    int forget() {
        int had = plumbs.size();
        plumbs.clear();
        return had;
    }

    private List<Integer> middles() {
        List<Integer> may = new ArrayList<>();
        for (int m = 0; m <= 5; m++) {
            boolean fits = true;
            for (int[] plumb : plumbs) fits &= (plumb[0] < m) == (plumb[1] == 1);
            if (fits) may.add(m);
        }
        return may;
    }

    int where() {
        int bits = 0;
        for (int m : middles()) bits += 1 << m;
        return bits;
    }

    int hang() {
        int best = NONE;
        int least = 99;
        for (int row = 0; row < rows().length; row++) {
            int ups = 0;
            for (int m : middles()) ups += row < m ? 1 : 0;
            int greater = Math.max(ups, middles().size() - ups);
            if (greater < least) {
                best = row;
                least = greater;
            }
        }
        return best;
    }

    int from(int cell, int steps, int i) {
        if (noCell(cell) || outside(steps, 0, 9) || outside(i, -1, 34)) return BAD;
        List<Integer> begins = new ArrayList<>();
        for (int begin = 0; begin < all().length(); begin++) {
            if (fallen(begin, steps) == cell) begins.add(begin);
        }
        if (i == NONE) return begins.size();
        return i < begins.size() ? begins.get(i) : NONE;
    }

    int joined() {
        String turned = new StringBuilder(all()).reverse().toString();
        int otherwise = 0;
        for (int i = 0; i < turned.length(); i++) otherwise += turned.charAt(i) == all().charAt(i) ? 0 : 1;
        return otherwise;
    }

    int like(int by) {
        if (outside(by, 1, 6)) return BAD;
        int otherwise = 0;
        for (String row : rows()) {
            for (int c = 0; c + by < row.length(); c++) otherwise += row.charAt(c) == row.charAt(c + by) ? 0 : 1;
        }
        return otherwise;
    }

    // ---- chance

    long flood(int c, int cell, int what) {
        int springs = count(5);
        if (outside(c, 0, 16) || noCell(cell) || outside(what, 0, 1) || springs > 9) return Long.MIN_VALUE + 2;
        BigInteger above = BigInteger.ZERO;
        BigInteger below = BigInteger.valueOf(16).pow(springs);
        for (int flowing = 0; flowing < 1 << springs; flowing++) {
            StringBuilder cells = new StringBuilder(all());
            int number = 0;
            for (int i = 0; i < cells.length(); i++) {
                if (cells.charAt(i) == 'w' && (flowing >> number++ & 1) == 0) cells.setCharAt(i, '.');
            }
            if (wetOf(cells.toString()).contains(cell)) {
                int flow = Integer.bitCount(flowing);
                above = above.add(BigInteger.valueOf(c).pow(flow)
                        .multiply(BigInteger.valueOf(16 - c).pow(springs - flow)));
            }
        }
        BigInteger shared = above.gcd(below);
        return (what == 0 ? above : below).divide(shared).longValueExact();
    }

    int kicks(int seed, int cell, int n) {
        if (noCell(cell) || rock(cell) || outside(n, 1, 40)) return BAD;
        int place = cell;
        int lots = seed;
        for (int i = 0; i < n; i++) {
            if (!held(place)) {
                place = below(place);
                continue;
            }
            lots = lots * 1103515245 + 12345;
            int lot = (lots >> 16 & 0xffff) % 3;
            int to = lot == 0 ? place : lot == 1 ? place - 1 : place + 1;
            if (to >= 0 && to < all().length() && to / wide() == place / wide() && !rock(to)) place = to;
        }
        return place;
    }

    // ---- sheets

    private int found(int number) {
        finding = number;
        return -10 - number;
    }

    private int trimmed(int form, int v) {
        return form == 0 ? (byte) v : form == 1 ? (short) v : v;
    }

    int sheet(int s, int form, int n) {
        if (outside(s, 0, 3) || outside(form, 0, 2) || n > 48) return BAD;
        if (n < 0) return found(5);
        sheets[s] = new int[n];
        forms[s] = form;
        return n;
    }

    int lose(int s) {
        if (outside(s, 0, 3)) return BAD;
        if (sheets[s] == null) return found(1);
        int had = sheets[s].length;
        sheets[s] = null;
        return had;
    }

    private int refusal(int s, int form, int i) {
        if (outside(s, 0, 3) || outside(form, 0, 2)) return BAD;
        if (sheets[s] == null) return found(1);
        if (forms[s] != form) return found(3);
        return outside(i, 0, sheets[s].length - 1) ? found(2) : 0;
    }

    int put(int s, int form, int i, int v) {
        int refusal = refusal(s, form, i);
        if (refusal != 0) return refusal;
        sheets[s][i] = trimmed(form, v);
        return 1;
    }

    int get(int s, int form, int i) {
        return refusal(s, form, i) != 0 ? Integer.MIN_VALUE : sheets[s][i];
    }

    int copy(int s, int i, int t, int j, int n) {
        if (outside(s, 0, 3) || outside(t, 0, 3)) return BAD;
        if (sheets[s] == null || sheets[t] == null) return found(1);
        if (forms[s] != forms[t]) return found(4);
        boolean fits = i >= 0 && j >= 0 && n >= 0 && (long) i + n <= sheets[s].length && (long) j + n <= sheets[t].length;
        if (!fits) return found(2);
        int[] was = Arrays.copyOf(sheets[s], sheets[s].length);
        for (int k = 0; k < n; k++) sheets[t][j + k] = was[i + k];
        return 1;
    }

    int write(int cell, int s) {
        if (noCell(cell) || outside(s, 0, 3)) return BAD;
        if (sheets[s] == null) return found(1);
        int written = Math.min(sheets[s].length, all().length());
        int[] ways = table()[cell];
        for (int to = 0; to < written; to++) sheets[s][to] = trimmed(forms[s], ways[to]);
        return written;
    }

    int count(int what) {
        int held = 0;
        int springs = 0;
        for (int cell = 0; cell < all().length(); cell++) {
            held += held(cell) ? 1 : 0;
            springs += all().charAt(cell) == 'w' ? 1 : 0;
        }
        int[] counts = {all().length(), rows().length, text.length(), things.size(), plumbs.size(), springs,
            wetOf(all()).size(), held, finding};
        return outside(what, 0, 8) ? BAD : counts[what];
    }

    long digest() {
        List<Long> told = new ArrayList<>();
        for (int what = 0; what <= 7; what++) told.add((long) count(what));
        told.add((long) fault());
        for (int it = 0; it < all().length(); it++) {
            for (int what = 0; what <= 2; what++) told.add((long) cell(it, what));
            told.add((long) reach(it));
            told.add((long) wet(it));
            told.add((long) way(it, 0));
            told.add((long) next(0, it));
            told.add((long) from(it, 2, NONE));
            told.add((long) from(it, 2, 0));
        }
        for (int it = 0; it < things.size(); it++) {
            told.add((long) at(it, 5));
            told.add((long) rests(it, 0));
            told.add((long) rests(it, 1));
        }
        int[] last = {longest(), meet(0, 1), race(0, 1, 2), plug(3, NONE), plug(3, 0), where(), hang(), joined(), like(1)};
        for (int answer : last) told.add((long) answer);
        told.add(flood(5, 3, 0));
        told.add(flood(5, 3, 1));
        told.add((long) kicks(7, 0, 9));
        long h = 17;
        for (long answer : told) h = 31 * h + answer;
        return h;
    }
}
