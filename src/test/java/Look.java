import java.util.ArrayList;
import java.util.List;

/** All that can be seen of an object. Looking takes the object apart, so it is the last thing done to it. */
final class Look {
    private final TwoWidths x;
    private final List<String> seen = new ArrayList<>();

    private Look(TwoWidths x) {
        this.x = x;
    }

    /** What two objects of the same calls must tell alike: all but how many REFUSALS there were. */
    static List<String> at(TwoWidths x) {
        Look look = new Look(x);
        look.land();
        look.shelves();
        look.answers();
        look.prices();
        look.note("back", x.back());
        look.land();
        look.prices();
        look.note("land", x.land());
        look.note("lines", x.status(0));
        look.note("goods", x.status(1));
        look.note("works", x.status(2));
        look.note("years", x.status(6));
        return look.seen;
    }

    /** How many REFUSALS there were, -2 to -6. */
    static int[] refusals(TwoWidths x) {
        int[] counts = new int[5];
        for (int i = 0; i < 5; i++) {
            counts[i] = x.status(12 + i);
        }
        return counts;
    }

    private void note(String what, long answer) {
        seen.add(what + " " + answer);
    }

    private void land() {
        for (int what = 0; what <= 8; what++) {
            note("status " + what, x.status(what));
        }
        int lines = x.status(0);
        int goodsCount = x.status(1);
        int works = x.status(2);
        for (int line = 0; line < lines; line++) {
            for (int what = 0; what <= 6; what++) {
                note("line " + line + " " + what, x.lineOf(line, what));
            }
        }
        for (int goods = 0; goods < goodsCount; goods++) {
            for (int what = 0; what <= 2; what++) {
                note("goods " + goods + " " + what, x.goodsOf(goods, what));
            }
        }
        for (int work = 0; work < works; work++) {
            for (int what = 0; what <= 4; what++) {
                note("work " + work + " " + what, x.workOf(work, what));
            }
        }
    }

    private void shelves() {
        for (int s = 0; s < 8; s++) {
            note("holds " + s, x.holds(s));
            note("says " + s, x.says(s, 0));
            for (int i = 0; i < 5; i++) {
                note("element " + s + " " + i, x.element(s, i));
            }
            note("last element " + s, x.element(s, 39));
        }
    }

    private void answers() {
        note("free", x.free());
        note("turn", x.turn(0));
        note("best", x.best());
        note("first", x.first());
        note("greedy", x.greedy());
        note("never", x.never());
        note("one", x.one(1, 5));
        note("hangs", x.hangs());
        note("earns", x.earns(1));
        note("plan", x.plan(0, 3));
    }

    // Each is told by putting another in.
    private void prices() {
        for (int place = 0; place < 12; place++) {
            note("change " + place, x.change(place, 50));
        }
        for (int width = 0; width < 3; width++) {
            note("coin " + width, x.coin(width, 5));
        }
        note("years", x.years(5));
    }
}
