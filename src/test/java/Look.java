import java.util.ArrayList;
import java.util.List;

/**
 * All that can be seen of an object but the latest FINDING. To look so takes the object to pieces;
 * it takes fewer than 400 calls.
 */
final class Look {
    private final MineUpside x;
    private final List<Long> seen = new ArrayList<>();

    private Look(MineUpside x) {
        this.x = x;
    }

    static List<Long> at(MineUpside x) {
        Look look = new Look(x);
        look.settings();
        look.things();
        look.text();
        look.sheets();
        return look.seen;
    }

    private void see(long answer) {
        seen.add(answer);
    }

    private void settings() {
        for (int what = 0; what <= 7; what++) {
            see(x.count(what));
        }
        see(x.digest());
        see(x.where());
        see(x.set(0, 0));
        see(x.set(1, 0));
    }

    private void things() {
        for (int left = x.count(3); left > 0; left--) {
            for (int step = 0; step < 8; step++) {
                see(x.at(left - 1, step));
            }
            see(x.back());
        }
    }

    private void text() {
        for (int left = x.count(2); left > 0; left--) {
            see(x.fault());
            see(x.joined());
            see(x.undo());
        }
    }

    /** SHEETS have at most 8 items here. */
    private void sheets() {
        for (int s = 0; s <= 3; s++) {
            for (int form = 0; form <= 2; form++) {
                int last = x.get(s, form, 0) == Check.LEAST_INT ? 0 : 8;
                for (int i = 0; i < last; i++) {
                    see(x.get(s, form, i));
                }
                see(last);
            }
            see(x.lose(s));
        }
    }
}
