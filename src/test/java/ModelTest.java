import java.util.Random;

/** All promises: runs of calls by chance, each answer compared with the Model's. */
public final class ModelTest {
    private static final Check CHECK = new Check("ModelTest");
    private static final int RUNS = 400;
    private static final int CALLS = 400;

    private final Random random;
    private final MineUpside x = new MineUpside();
    private final Model model = new Model();

    private ModelTest(long seed) {
        random = new Random(seed);
    }

    public static void main(String[] args) {
        for (int run = 0; run < RUNS; run++) {
            ModelTest test = new ModelTest(run);
            test.typeMine();
            for (int call = 0; call < CALLS; call++) {
                test.anyCall(run);
            }
            CHECK.due("run " + run + " digest", test.x.digest(), test.model.digest());
        }
        CHECK.end();
    }

    private void typeMine() {
        int rows = 1 + random.nextInt(5);
        int wide = 1 + random.nextInt(7);
        String kinds = new String[] {"#.lw", "#...lw", "#....ll.", ".......w", "##..w"}[random.nextInt(5)];
        for (int i = 0; i < rows * (wide + 1) - 1; i++) {
            type(i % (wide + 1) == wide ? ';' : kinds.charAt(random.nextInt(kinds.length())));
        }
    }

    private void type(int b) {
        CHECK.due("type(" + b + ")", x.type(b), model.type(b));
    }

    /** A number from 0 to below an end, now and then just outside or far off. */
    private int upTo(int end) {
        int lot = random.nextInt(40);
        if (lot == 0) return -1 - random.nextInt(2);
        if (lot == 1) return end + random.nextInt(2);
        if (lot == 2) return new int[] {Integer.MIN_VALUE, Integer.MAX_VALUE, 64, 99}[random.nextInt(4)];
        return random.nextInt(end);
    }

    private int cell() {
        int cells = Math.max(0, model.count(0));
        return upTo(cells == 0 || random.nextInt(20) == 0 ? 35 : cells);
    }

    private void anyCall(int run) {
        int number = random.nextInt(100);
        String call = "run " + run + " call " + number;
        if (number < 12) {
            changing(call, number);
        } else if (number < 40) {
            falling(call, number - 12);
        } else if (number < 60) {
            going(call, number - 40);
        } else if (number < 78) {
            finding(call, number - 60);
        } else {
            sheets(call, number - 78);
        }
    }

    private void changing(String call, int number) {
        int what = upTo(2);
        int v = upTo(what == 0 ? 6 : 10);
        int b = ".#lw;x".charAt(random.nextInt(6));
        int anyByte = random.nextInt(3) == 0 ? upTo(256) : -1;
        switch (number) {
            case 0: CHECK.due(call, x.type(b), model.type(b)); break;
            case 1: CHECK.due(call, x.undo(), model.undo()); break;
            case 2:
                if (random.nextInt(8) == 0) {
                    CHECK.due(call, x.wipe(), model.wipe());
                    typeMine();
                }
                break;
            case 3: CHECK.due(call, x.fault(), model.fault()); break;
            case 4: CHECK.due(call, x.type(anyByte), model.type(anyByte)); break;
            default: CHECK.due(call, x.set(what, v), model.set(what, v)); break;
        }
        if (model.fault() != -1 && random.nextInt(2) == 0) {
            CHECK.due(call + " undo", x.undo(), model.undo());
        }
    }

    private void falling(String call, int number) {
        int a = upTo(9);
        int b = upTo(9);
        int cell = cell();
        int step = upTo(random.nextBoolean() ? 100 : 10);
        int what = upTo(3);
        int counted = upTo(9);
        switch (number) {
            case 0: case 1: case 2: CHECK.due(call, x.thing(cell, step), model.thing(cell, step)); break;
            case 3: CHECK.due(call, x.back(), model.back()); break;
            case 4: case 5: case 6: case 7: CHECK.due(call, x.at(a, step), model.at(a, step)); break;
            case 8: case 9: case 10: case 11: CHECK.due(call, x.rests(a, what), model.rests(a, what)); break;
            case 12: case 13: case 14: CHECK.due(call, x.longest(), model.longest()); break;
            case 15: case 16: case 17: CHECK.due(call, x.meet(a, b), model.meet(a, b)); break;
            case 18: case 19: case 20: CHECK.due(call, x.count(counted), model.count(counted)); break;
            default: CHECK.due(call, x.cell(cell, what), model.cell(cell, what)); break;
        }
    }

    private void going(String call, int number) {
        int a = cell();
        int b = cell();
        int c = cell();
        int i = upTo(3) - 1;
        switch (number) {
            case 0: case 1: case 2: case 3: CHECK.due(call, x.way(a, b), model.way(a, b)); break;
            case 4: case 5: case 6: case 7: CHECK.due(call, x.next(a, b), model.next(a, b)); break;
            case 8: case 9: case 10: CHECK.due(call, x.race(a, b, c), model.race(a, b, c)); break;
            case 11: case 12: case 13: CHECK.due(call, x.reach(a), model.reach(a)); break;
            case 14: case 15: case 16: CHECK.due(call, x.wet(a), model.wet(a)); break;
            default:
                if (random.nextInt(3) == 0) {
                    CHECK.due(call, x.plug(a, i), model.plug(a, i));
                }
                break;
        }
    }

    private void finding(String call, int number) {
        int cell = cell();
        int row = upTo(5);
        int what = upTo(2);
        int steps = upTo(10);
        int i = random.nextInt(3) == 0 ? upTo(35) : upTo(4) - 1;
        int sixteenths = upTo(17);
        int seed = random.nextInt();
        int n = upTo(41);
        switch (number) {
            case 0: case 1: CHECK.due(call, x.plumb(row, what), model.plumb(row, what)); break;
            case 2: CHECK.due(call, x.forget(), model.forget()); break;
            case 3: case 4: CHECK.due(call, x.where(), model.where()); break;
            case 5: case 6: CHECK.due(call, x.hang(), model.hang()); break;
            case 7: case 8: case 9: CHECK.due(call, x.from(cell, steps, i), model.from(cell, steps, i)); break;
            case 10: CHECK.due(call, x.joined(), model.joined()); break;
            case 11: CHECK.due(call, x.like(steps), model.like(steps)); break;
            case 12:
                if (random.nextInt(4) == 0) {
                    CHECK.due(call, x.flood(sixteenths, cell, what), model.flood(sixteenths, cell, what));
                }
                break;
            case 13: case 14: case 15: CHECK.due(call, x.kicks(seed, cell, n), model.kicks(seed, cell, n)); break;
            default: CHECK.due(call, x.fault(), model.fault()); break;
        }
    }

    private void sheets(String call, int number) {
        int s = upTo(4);
        int t = upTo(4);
        int form = random.nextInt(3) == 0 ? upTo(3) : 0;
        int size = upTo(random.nextBoolean() ? 49 : 6);
        int i = upTo(6);
        int j = upTo(6);
        int n = upTo(4);
        int cell = cell();
        int v = random.nextBoolean() ? random.nextInt(40) : random.nextInt();
        switch (number) {
            case 0: case 1: case 2: case 3: CHECK.due(call, x.sheet(s, form, size), model.sheet(s, form, size)); break;
            case 4: CHECK.due(call, x.lose(s), model.lose(s)); break;
            case 5: case 6: case 7: case 8: CHECK.due(call, x.put(s, form, i, v), model.put(s, form, i, v)); break;
            case 9: case 10: case 11: case 12: CHECK.due(call, x.get(s, form, i), model.get(s, form, i)); break;
            case 13: case 14: case 15: CHECK.due(call, x.copy(s, i, t, j, n), model.copy(s, i, t, j, n)); break;
            case 16: case 17: CHECK.due(call, x.write(cell, s), model.write(cell, s)); break;
            case 18: CHECK.due(call, x.read(s), model.read(s)); break;
            default: CHECK.due(call, x.count(8), model.count(8)); break;
        }
    }
}
