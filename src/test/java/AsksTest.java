import java.util.ArrayList;
import java.util.List;
import java.util.function.Supplier;
import java.util.function.ToLongFunction;

/** No asking leaves anything for the next: an answer is the same whatever was asked before, changes between or not. */
public final class AsksTest {
    private static final Check C = new Check("AsksTest");

    private interface Deed {
        void to(TwoWidths x);
    }

    public static void main(String[] args) {
        List<Supplier<TwoWidths>> lands = List.of(Lands::mixed, Lands::sevenWorks, Lands::full, Lands::pair,
            Lands::laterPair, Lands::half);
        List<Deed> deeds = deeds();
        for (int l = 0; l < lands.size(); l++) {
            for (int d = 0; d < deeds.size(); d++) {
                pairs(lands.get(l), deeds.get(d), "land " + l + ", deed " + d);
            }
        }
        C.end();
    }

    private static void pairs(Supplier<TwoWidths> land, Deed deed, String name) {
        List<ToLongFunction<TwoWidths>> asks = asks();
        for (int second = 0; second < asks.size(); second++) {
            TwoWidths fresh = land.get();
            deed.to(fresh);
            long due = asks.get(second).applyAsLong(fresh);
            for (int first = 0; first < asks.size(); first++) {
                TwoWidths x = land.get();
                asks.get(first).applyAsLong(x);
                deed.to(x);
                C.due(name + ": ask " + second + " after ask " + first, asks.get(second).applyAsLong(x), due);
            }
        }
    }

    private static List<Deed> deeds() {
        List<Deed> all = new ArrayList<>();
        all.add(x -> { });
        all.add(x -> x.washed(0, true));
        all.add(x -> x.year(0));
        all.add(x -> x.back());
        all.add(x -> {
            x.line(0, 2, 7, 3, 99, 4);
            x.goods(0, 2, 50);
            x.work(3, 0, 3, 1);
        });
        all.add(x -> x.work(4, 1, 2, 1));
        return all;
    }

    private static List<ToLongFunction<TwoWidths>> asks() {
        List<ToLongFunction<TwoWidths>> all = new ArrayList<>();
        all.add(x -> x.cheapest(0, 2));
        all.add(x -> x.way(0, 0));
        all.add(x -> x.free());
        all.add(x -> x.turn(0));
        all.add(x -> x.turn(10));
        all.add(x -> x.total(3));
        all.add(x -> x.best());
        all.add(x -> x.worth(0));
        all.add(x -> x.first());
        all.add(x -> x.greedy());
        all.add(x -> x.gap());
        all.add(x -> x.edge(0));
        all.add(x -> x.never());
        all.add(x -> x.one(1, 9));
        all.add(x -> x.which(9));
        all.add(x -> x.earns(1));
        all.add(x -> x.gains(0, 0));
        all.add(x -> x.losers(0));
        all.add(x -> x.port(1, false));
        all.add(x -> x.port(1, true));
        all.add(x -> x.hangs());
        all.add(AsksTest::planned);
        all.add(AsksTest::misread);
        return all;
    }

    // Tells each WORK once, so that all of them are DONE on the trial land.
    private static long planned(TwoWidths x) {
        x.row(7, 0, 7);
        for (int i = 0; i < 7; i++) {
            x.set(7, i, i);
        }
        return x.plan(7, 7);
    }

    // What came before the FAULT was put into a land that is given up.
    private static long misread(TwoWidths x) {
        x.wipe();
        return Check.land(x, "change 0 3;change 1 7;coin 0 9;coin 1 0;years 30;years");
    }
}
