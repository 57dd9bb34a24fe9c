import java.util.List;
import java.util.function.Supplier;
import java.util.function.ToLongFunction;

/**
 * Each REFUSAL of each promise, in the order in which the promise has them: the answer, the count, and that nothing else
 * changes. A call is made on one of two objects of the same past; then all that can be seen of both must be alike.
 */
public final class RefusalsTest {
    private static final int BAD = -2;
    private static final int OTHER = -3;
    private static final int NOTHING = -4;
    private static final int STUCK = -5;
    private static final int FULL = -6;
    private static final int MIN = Integer.MIN_VALUE;
    private static final int MAX = Integer.MAX_VALUE;
    private static final Check C = new Check("RefusalsTest");

    public static void main(String[] args) {
        row();
        set();
        copyOfBadShelves();
        copyOfOtherThings();
        copyBeyond();
        show();
        says();
        line();
        goods();
        work();
        prices();
        washed();
        feed();
        land();
        parts();
        ways();
        worksAsked();
        owners();
        plans();
        years();
        emptyLand();
        fullLand();
        nothingRefused();
        askingChangesNothing();
        C.end();
    }

    private static void refused(String call, int refusal, ToLongFunction<TwoWidths> ask) {
        refused(Lands::mixed, call, refusal, refusal, ask, x -> { });
    }

    private static void refused(Supplier<TwoWidths> land, String call, int refusal, ToLongFunction<TwoWidths> ask) {
        refused(land, call, refusal, refusal, ask, x -> { });
    }

    private interface Deed {
        void to(TwoWidths x);
    }

    // What a refused call does all the same (land() wipes THE TAPE) is done to the other object by instead.
    private static void refused(Supplier<TwoWidths> land, String call, long answer, int refusal,
        ToLongFunction<TwoWidths> ask, Deed instead) {
        TwoWidths asked = land.get();
        TwoWidths other = land.get();
        C.due(call, ask.applyAsLong(asked), answer);
        instead.to(other);
        int[] counts = Look.refusals(asked);
        int[] before = Look.refusals(other);
        for (int i = 0; i < 5; i++) {
            int more = refusal == -2 - i ? 1 : 0;
            C.due(call + ": how many refusals " + (-2 - i), counts[i], before[i] + more);
        }
        alike(call, asked, other);
    }

    private static void alike(String call, TwoWidths asked, TwoWidths other) {
        List<String> is = Look.at(asked);
        List<String> was = Look.at(other);
        C.due(call + ": as much to be seen", is.size(), was.size());
        for (int i = 0; i < Math.min(is.size(), was.size()); i++) {
            C.due(call + ": '" + is.get(i) + "' was '" + was.get(i) + "'", is.get(i).equals(was.get(i)));
        }
    }

    // Nothing is refused and nothing changes, whatever the answer.
    private static void unchanged(Supplier<TwoWidths> land, String call, ToLongFunction<TwoWidths> ask) {
        TwoWidths asked = land.get();
        TwoWidths other = land.get();
        ask.applyAsLong(asked);
        int[] counts = Look.refusals(asked);
        int[] before = Look.refusals(other);
        for (int i = 0; i < 5; i++) {
            C.due(call + ": how many refusals " + (-2 - i), counts[i], before[i]);
        }
        alike(call, asked, other);
    }

    // Promise 2: BAD.
    private static void row() {
        refused("row: SHELF below", BAD, x -> x.row(-1, 0, 1));
        refused("row: SHELF above", BAD, x -> x.row(8, 0, 1));
        refused("row: SORT below", BAD, x -> x.row(0, -1, 1));
        refused("row: SORT above", BAD, x -> x.row(0, 5, 1));
        refused("row: n below", BAD, x -> x.row(0, 0, -1));
        refused("row: n above", BAD, x -> x.row(0, 0, 41));
        refused("row: n above, over a WORK", BAD, x -> x.row(3, 0, 41));
        refused("row: n above, over NOTHING", BAD, x -> x.row(7, 0, 41));
        refused("row: far below", BAD, x -> x.row(MIN, MIN, MIN));
        refused("row: far above", BAD, x -> x.row(MAX, MAX, MAX));
    }

    // Promise 3: BAD SHELF; OTHER; NOTHING; BAD i.
    private static void set() {
        refused("set: SHELF below", BAD, x -> x.set(-1, 0, 1));
        refused("set: SHELF above", BAD, x -> x.set(8, 0, 1));
        refused("set: OTHER", OTHER, x -> x.set(3, 0, 1));
        refused("set: OTHER before BAD i", OTHER, x -> x.set(3, -1, 1));
        refused("set: NOTHING", NOTHING, x -> x.set(6, 0, 1));
        refused("set: NOTHING before BAD i", NOTHING, x -> x.set(6, 40, 1));
        refused("set: i below", BAD, x -> x.set(0, -1, 1));
        refused("set: i above", BAD, x -> x.set(0, 5, 1));
        refused("set: i above a full ROW", BAD, x -> x.set(2, 40, 1));
        refused("set: i of an empty ROW", BAD, x -> x.set(4, 0, 1));
        refused("set: i far below", BAD, x -> x.set(0, MIN, 1));
        refused("set: i far above", BAD, x -> x.set(0, MAX, 1));
    }

    // Promise 4: BAD SHELVES; OTHER; NOTHING; BAD the others.
    private static void copyOfBadShelves() {
        refused("copy: p below", BAD, x -> x.copy(-1, 0, 0, 0, 1));
        refused("copy: p above", BAD, x -> x.copy(8, 0, 0, 0, 1));
        refused("copy: q below", BAD, x -> x.copy(0, -1, 0, 0, 1));
        refused("copy: q above", BAD, x -> x.copy(0, 8, 0, 0, 1));
        refused("copy: BAD p before OTHER q", BAD, x -> x.copy(8, 3, 0, 0, 1));
        refused("copy: BAD q before OTHER p", BAD, x -> x.copy(3, 8, 0, 0, 1));
        refused("copy: BAD p before NOTHING in q", BAD, x -> x.copy(-1, 6, 0, 0, 1));
        refused("copy: BAD q before NOTHING in p", BAD, x -> x.copy(6, -1, 0, 0, 1));
        refused("copy: both far off", BAD, x -> x.copy(MIN, MAX, 0, 0, 1));
    }

    private static void copyOfOtherThings() {
        refused("copy: a WORK in p", OTHER, x -> x.copy(3, 0, 0, 0, 1));
        refused("copy: a WORK in q", OTHER, x -> x.copy(0, 3, 0, 0, 1));
        refused("copy: two WORKS", OTHER, x -> x.copy(3, 5, 0, 0, 1));
        refused("copy: one WORK onto itself", OTHER, x -> x.copy(3, 3, 0, 0, 1));
        refused("copy: two SORTS", OTHER, x -> x.copy(0, 2, 0, 0, 1));
        refused("copy: two SORTS, n 0", OTHER, x -> x.copy(0, 4, 0, 0, 0));
        refused("copy: OTHER p before NOTHING in q", OTHER, x -> x.copy(3, 6, 0, 0, 1));
        refused("copy: OTHER q before NOTHING in p", OTHER, x -> x.copy(6, 3, 0, 0, 1));
        refused("copy: OTHER before BAD", OTHER, x -> x.copy(3, 0, -1, -1, -1));
        refused("copy: two SORTS before BAD", OTHER, x -> x.copy(0, 2, 5, 40, 41));
        refused("copy: NOTHING in p", NOTHING, x -> x.copy(6, 0, 0, 0, 1));
        refused("copy: NOTHING in q", NOTHING, x -> x.copy(0, 6, 0, 0, 1));
        refused("copy: NOTHING in both", NOTHING, x -> x.copy(6, 7, 0, 0, 1));
        refused("copy: NOTHING onto itself", NOTHING, x -> x.copy(6, 6, 0, 0, 0));
        refused("copy: NOTHING in p before BAD", NOTHING, x -> x.copy(6, 0, -1, -1, -1));
        refused("copy: NOTHING in q before BAD", NOTHING, x -> x.copy(0, 6, 5, 0, 41));
    }

    private static void copyBeyond() {
        refused("copy: i below", BAD, x -> x.copy(0, 1, -1, 0, 1));
        refused("copy: j below", BAD, x -> x.copy(0, 1, 0, -1, 1));
        refused("copy: n below", BAD, x -> x.copy(0, 1, 0, 0, -1));
        refused("copy: one too many from p", BAD, x -> x.copy(1, 0, 0, 0, 4));
        refused("copy: one too many for q", BAD, x -> x.copy(0, 1, 0, 0, 4));
        refused("copy: i one too far", BAD, x -> x.copy(0, 1, 3, 0, 3));
        refused("copy: j one too far", BAD, x -> x.copy(0, 1, 0, 1, 3));
        refused("copy: i behind the last", BAD, x -> x.copy(0, 1, 5, 0, 1));
        refused("copy: j behind the last", BAD, x -> x.copy(0, 1, 0, 3, 1));
        refused("copy: n above all ROWS", BAD, x -> x.copy(2, 2, 0, 0, 41));
        refused("copy: an element of an empty ROW", BAD, x -> x.copy(4, 4, 0, 0, 1));
        refused("copy: none, but i beyond", BAD, x -> x.copy(0, 1, 6, 0, 0));
        refused("copy: none, but j beyond", BAD, x -> x.copy(0, 1, 0, 4, 0));
        refused("copy: far above", BAD, x -> x.copy(0, 1, MAX, MAX, MAX));
        refused("copy: i far above", BAD, x -> x.copy(0, 1, MAX, 0, 1));
        refused("copy: j far above", BAD, x -> x.copy(0, 1, 0, MAX, 1));
        refused("copy: far below", BAD, x -> x.copy(0, 1, MIN, MIN, MIN));
        refused("copy: n far above, i far below", BAD, x -> x.copy(0, 1, MIN, MIN, MAX));
    }

    // Promise 7: BAD.
    private static void show() {
        refused("show: SHELF below", BAD, x -> x.show(-1, 0));
        refused("show: SHELF above", BAD, x -> x.show(8, 0));
        refused("show: SHELF above for NOTHING", BAD, x -> x.show(8, -1));
        refused("show: below NONE", BAD, x -> x.show(0, -2));
        refused("show: no such WORK", BAD, x -> x.show(0, 4));
        refused("show: no such WORK over a WORK", BAD, x -> x.show(3, 4));
        refused("show: far off", BAD, x -> x.show(0, MIN));
        refused("show: far above", BAD, x -> x.show(0, MAX));
    }

    // Promise 8: BAD SHELF, KIND; OTHER; NOTHING.
    private static void says() {
        refused("says: SHELF below", BAD, x -> x.says(-1, 0));
        refused("says: SHELF above", BAD, x -> x.says(8, 0));
        refused("says: KIND below", BAD, x -> x.says(3, -1));
        refused("says: KIND above", BAD, x -> x.says(3, 6));
        refused("says: BAD KIND before OTHER", BAD, x -> x.says(0, 6));
        refused("says: BAD KIND before NOTHING", BAD, x -> x.says(6, -1));
        refused("says: a ROW", OTHER, x -> x.says(0, 0));
        refused("says: an empty ROW", OTHER, x -> x.says(4, 0));
        refused("says: a THIRD as LIFT", OTHER, x -> x.says(3, 3));
        refused("says: a THIRD as NEW", OTHER, x -> x.says(3, 4));
        refused("says: a NEW as DOUBLE, which is under it", OTHER, x -> x.says(5, 5));
        refused("says: a NEW as ALTER", OTHER, x -> x.says(5, 1));
        refused("says: NOTHING", NOTHING, x -> x.says(6, 0));
        refused("says: NOTHING as DOUBLE", NOTHING, x -> x.says(6, 5));
        refused("says: far off", BAD, x -> x.says(MAX, MIN));
    }

    // Promise 9: BAD; FULL.
    private static void line() {
        int[][] bad = {{-1, 1, 1, 1, 1, 0}, {12, 1, 1, 1, 1, 0}, {1, -1, 1, 1, 1, 0}, {1, 12, 1, 1, 1, 0},
            {7, 7, 1, 1, 1, 0}, {0, 1, 0, 1, 1, 0}, {0, 1, 8, 1, 1, 0}, {0, 1, -1, 1, 1, 0}, {0, 1, 1, 0, 1, 0},
            {0, 1, 1, 61, 1, 0}, {0, 1, 1, 1, 0, 0}, {0, 1, 1, 1, 1000, 0}, {0, 1, 1, 1, 1, -1}, {0, 1, 1, 1, 1, 6},
            {MIN, MAX, MIN, MAX, MIN, MAX}};
        for (int[] b : bad) {
            refused("line: BAD", BAD, x -> x.line(b[0], b[1], b[2], b[3], b[4], b[5]));
            refused(Lands::full, "line: BAD before FULL", BAD, x -> x.line(b[0], b[1], b[2], b[3], b[4], b[5]));
        }
        refused(Lands::full, "line: FULL", FULL, x -> x.line(0, 1, 1, 1, 1, 0));
    }

    // Promise 10: BAD; FULL.
    private static void goods() {
        int[][] bad = {{-1, 1, 1}, {12, 1, 1}, {1, -1, 1}, {1, 12, 1}, {11, 11, 1}, {0, 1, 0}, {0, 1, 100},
            {MAX, MIN, MAX}};
        for (int[] b : bad) {
            refused("goods: BAD", BAD, x -> x.goods(b[0], b[1], b[2]));
            refused(Lands::full, "goods: BAD before FULL", BAD, x -> x.goods(b[0], b[1], b[2]));
        }
        refused(Lands::full, "goods: FULL", FULL, x -> x.goods(0, 1, 1));
    }

    // Promise 11: BAD: a, b that may not be now, too; FULL.
    private static void work() {
        int[][] bad = {{0, 0, 1, 1}, {-1, 0, 1, 1}, {6, 0, 1, 1}, {1, -1, 0, 0}, {1, 20, 0, 0}, {1, 0, -1, 0},
            {1, 0, 3, 0}, {2, -1, 0, 0}, {2, 20, 0, 0}, {2, 0, -1, 0}, {2, 0, 3, 0}, {3, -1, 0, 0}, {3, 12, 0, 0},
            {3, 0, -1, 0}, {3, 0, 100, 0}, {4, -1, 0, 0}, {4, 12, 0, 0}, {4, 0, -1, 0}, {4, 0, 12, 0}, {4, 3, 3, 0},
            {5, -1, 0, 0}, {5, 12, 0, 0}, {5, 0, -1, 0}, {5, 0, 12, 0}, {5, 3, 3, 0}, {1, 0, 0, -1}, {2, 0, 0, 10000},
            {3, 0, 0, -1}, {4, 0, 1, 10000}, {5, 0, 1, -1}, {MIN, MAX, MIN, MAX}, {MAX, MIN, MAX, MIN}};
        for (int[] b : bad) {
            refused("work: BAD " + b[0], BAD, x -> x.work(b[0], b[1], b[2], b[3]));
            refused(Lands::full, "work: BAD before FULL " + b[0], BAD, x -> x.work(b[0], b[1], b[2], b[3]));
        }
        refused("work: ALTER of a LINE that there isn't now", BAD, x -> x.work(1, 4, 0, 0));
        refused("work: THIRD of a LINE that there isn't now", BAD, x -> x.work(2, 4, 0, 0));
        refused(Lands::full, "work: FULL", FULL, x -> x.work(3, 0, 0, 0));
    }

    // Promises 12 to 14: BAD.
    private static void prices() {
        int[][] change = {{-1, 0}, {12, 0}, {0, -1}, {0, 100}, {MIN, MAX}, {MAX, MIN}};
        for (int[] b : change) {
            refused("change: BAD", BAD, x -> x.change(b[0], b[1]));
        }
        int[][] coin = {{-1, 0}, {3, 0}, {0, -1}, {0, 10}, {MIN, MAX}, {MAX, MIN}};
        for (int[] b : coin) {
            refused("coin: BAD", BAD, x -> x.coin(b[0], b[1]));
        }
        int[] years = {0, 31, -1, MIN, MAX};
        for (int b : years) {
            refused("years: BAD", BAD, x -> x.years(b));
        }
    }

    // Promise 15: BAD.
    private static void washed() {
        int[] bad = {-1, 4, 20, MIN, MAX};
        for (int b : bad) {
            refused("washed: BAD", BAD, x -> x.washed(b, true));
            refused("washed: BAD", BAD, x -> x.washed(b, false));
        }
    }

    // Promise 16: BAD; FULL.
    private static void feed() {
        int[] bad = {0, 5, -1, MIN, MAX};
        for (int b : bad) {
            refused("feed: BAD", BAD, x -> x.feed(' ', b));
            refused(Lands::fullTape, "feed: BAD before FULL", BAD, x -> x.feed(' ', b));
        }
        for (int n = 1; n <= 4; n++) {
            int bytes = n;
            refused(Lands::fullTape, "feed: FULL", FULL, x -> x.feed(0x20202020, bytes));
            refused(() -> tapeWith(251 - bytes), "feed: FULL by one byte", FULL, x -> x.feed(0x20202020, bytes));
        }
    }

    private static TwoWidths tapeWith(int size) {
        TwoWidths x = new TwoWidths();
        Check.feed(x, "years 9" + " ".repeat(size - 7));
        return x;
    }

    private static void landOf(Supplier<TwoWidths> land, String text, int fault) {
        refused(land, "land: " + text, -20 - fault, BAD, x -> {
            x.wipe();
            return Check.land(x, text);
        }, x -> x.wipe());
    }

    // Promise 18: the FAULT is counted as BAD; THE TAPE is empty then, nothing else changes.
    private static void land() {
        landOf(Lands::mixed, "", 0);
        landOf(Lands::mixed, "  ", 2);
        landOf(Lands::mixed, "line 0 1 width 1 miles 1;line", 29);
        landOf(Lands::mixed, "line 0 1 width 1 miles 1;;", 25);
        landOf(Lands::mixed, "goods 0 1 1;goods 0 0 1", 20);
        landOf(Lands::mixed, "work 3 0 0 1;work 1 4 0 1", 20);
        landOf(Lands::mixed, "change 0 1;change 4 2;coin 0 3;coin 2 4;years 3;years 31", 54);
        landOf(Lands::full, "years 3;line 0 1 width 1 miles 1", 8);
        landOf(Lands::full, "change 0 3;goods 0 1 1", 11);
        landOf(Lands::full, "coin 0 3;work 3 0 0 1", 9);
        landOf(Lands::empty, "line 0 1 width 1 miles 1;goods 0 1 1;work 1 0 0 1;#", 50);
    }

    // Promises 19 to 21: BAD.
    private static void parts() {
        int[][] line = {{-1, 0}, {4, 0}, {0, -1}, {0, 7}, {MIN, 0}, {MAX, 0}, {0, MIN}, {0, MAX}};
        for (int[] b : line) {
            refused("lineOf: BAD", BAD, x -> x.lineOf(b[0], b[1]));
        }
        int[][] goods = {{-1, 0}, {3, 0}, {0, -1}, {0, 3}, {MIN, 0}, {MAX, 0}, {0, MIN}, {0, MAX}};
        for (int[] b : goods) {
            refused("goodsOf: BAD", BAD, x -> x.goodsOf(b[0], b[1]));
        }
        int[][] work = {{-1, 0}, {4, 0}, {0, -1}, {0, 5}, {MIN, 0}, {MAX, 0}, {0, MIN}, {0, MAX}};
        for (int[] b : work) {
            refused("workOf: BAD", BAD, x -> x.workOf(b[0], b[1]));
        }
    }

    // Promises 22, 23, 25, 39 and 40.
    private static void ways() {
        int[][] cheapest = {{-1, 0}, {12, 0}, {0, -1}, {0, 12}, {-1, -1}, {12, 12}, {MIN, MAX}};
        for (int[] b : cheapest) {
            refused("cheapest: BAD", BAD, x -> x.cheapest(b[0], b[1]));
        }
        refused("cheapest: STUCK", STUCK, x -> x.cheapest(0, 3));
        refused("cheapest: BAD before STUCK", BAD, x -> x.cheapest(12, 3));
        int[][] way = {{-1, 0}, {3, 0}, {0, -1}, {0, 4}, {0, 9}, {0, 12}, {MIN, 0}, {MAX, 0}, {0, MIN}, {0, MAX}};
        for (int[] b : way) {
            refused("way: BAD " + b[1], BAD, x -> x.way(b[0], b[1]));
        }
        int[] noPart = {-1, 4, 9, MIN, MAX};
        for (int b : noPart) {
            refused(() -> withWaylessGoods(), "way: BAD before STUCK " + b, BAD, x -> x.way(3, b));
        }
        int[] part = {0, 1, 2, 3, 10};
        for (int p : part) {
            refused(() -> withWaylessGoods(), "way: STUCK " + p, STUCK, x -> x.way(3, p));
        }
        int[] turn = {-1, 2, 9, 14, MIN, MAX};
        for (int b : turn) {
            refused("turn: BAD", BAD, x -> x.turn(b));
        }
        int[] port = {-1, 12, MIN, MAX};
        for (int b : port) {
            refused("port: BAD", BAD, x -> x.port(b, false));
            refused("port: BAD", BAD, x -> x.port(b, true));
        }
        refused(() -> allWashed(), "hangs: STUCK", STUCK, x -> x.hangs());
    }

    private static TwoWidths withWaylessGoods() {
        TwoWidths x = Lands.mixed();
        x.goods(7, 8, 3);
        return x;
    }

    private static TwoWidths allWashed() {
        TwoWidths x = Lands.mixed();
        for (int line = 0; line < 4; line++) {
            x.washed(line, true);
        }
        return x;
    }

    // Promises 26, 28, 32, 34 and 35.
    private static void worksAsked() {
        int[] sets = {-1, 16, MIN, MAX};
        for (int b : sets) {
            refused("total: BAD", BAD, x -> x.total(b));
        }
        int[] works = {-1, 4, 7, MIN, MAX};
        for (int b : works) {
            refused(Lands::mixed, "worth: no such one", -1000002, BAD, x -> x.worth(b), x -> { });
            refused("edge: BAD", BAD, x -> x.edge(b));
            refused("losers: BAD", BAD, x -> x.losers(b));
        }
        refused(Lands::mixed, "worth: DONE for good", -1000005, STUCK, x -> x.worth(1), x -> { });
        refused("edge: STUCK", STUCK, x -> x.edge(1));
        refused("losers: STUCK", STUCK, x -> x.losers(1));
        int[][] one = {{-1, 0}, {3, 0}, {0, -1}, {0, 100}, {MIN, MAX}, {MAX, MIN}};
        for (int[] b : one) {
            refused("one: BAD", BAD, x -> x.one(b[0], b[1]));
        }
        int[] which = {-1, 100, MIN, MAX};
        for (int b : which) {
            refused("which: BAD", BAD, x -> x.which(b));
        }
    }

    // Promises 36 and 37.
    private static void owners() {
        int[] owners = {-1, 6, MIN, MAX};
        for (int b : owners) {
            refused("earns: BAD", BAD, x -> x.earns(b));
            refused(Lands::mixed, "gains: no such OWNER", -1000002, BAD, x -> x.gains(b, 0), x -> { });
            refused(Lands::mixed, "gains: BAD before STUCK", -1000002, BAD, x -> x.gains(b, 1), x -> { });
        }
        int[] works = {-1, 4, 7, MIN, MAX};
        for (int b : works) {
            refused(Lands::mixed, "gains: no such WORK", -1000002, BAD, x -> x.gains(0, b), x -> { });
        }
        refused(Lands::mixed, "gains: DONE for good", -1000005, STUCK, x -> x.gains(0, 1), x -> { });
    }

    // Promises 41 and 42: BAD SHELF, n; OTHER; NOTHING; BAD: fewer elements; STUCK: WRONG (plan alone).
    private static void plans() {
        int[][] due = {{-1, 0, BAD}, {8, 0, BAD}, {MIN, 0, BAD}, {MAX, 0, BAD}, {0, -1, BAD}, {2, 31, BAD},
            {2, MIN, BAD}, {2, MAX, BAD}, {3, -1, BAD}, {3, 31, BAD}, {6, -1, BAD}, {6, 31, BAD}, {3, 0, OTHER},
            {3, 30, OTHER}, {6, 0, NOTHING}, {6, 30, NOTHING}, {0, 6, BAD}, {0, 30, BAD}, {4, 1, BAD}};
        for (int[] d : due) {
            refused("plan " + d[0] + " " + d[1], d[2], x -> x.plan(d[0], d[1]));
            refused("judge " + d[0] + " " + d[1], d[2], x -> x.judge(d[0], d[1]));
        }
        refused("plan: WRONG", STUCK, x -> x.plan(2, 2));
        refused("plan: WRONG", STUCK, x -> x.plan(2, 30));
        refused("plan: WRONG, but BAD n before", BAD, x -> x.plan(2, 31));
        refused(() -> wrongAndShort(), "plan: fewer elements before WRONG", BAD, x -> x.plan(1, 4));
        unchanged(Lands::mixed, "judge: WRONG is no refusal", x -> x.judge(2, 2));
    }

    private static TwoWidths wrongAndShort() {
        TwoWidths x = Lands.mixed();
        x.row(1, 0, 3);
        return x;
    }

    // Promises 43, 44 and 46.
    private static void years() {
        int[] works = {-2, 4, 7, MIN, MAX};
        for (int b : works) {
            refused("year: BAD", BAD, x -> x.year(b));
        }
        refused("year: STUCK", STUCK, x -> x.year(1));
        int[] runs = {0, 21, -1, MIN, MAX};
        for (int b : runs) {
            refused("run: BAD", BAD, x -> x.run(b));
        }
        refused(Lands::empty, "back: STUCK", STUCK, x -> x.back());
        refused(Lands::fullTape, "back: STUCK", STUCK, x -> x.back());
    }

    // Of a new object: nothing of any number.
    private static void emptyLand() {
        Supplier<TwoWidths> empty = Lands::empty;
        refused(empty, "set", NOTHING, x -> x.set(0, 0, 1));
        refused(empty, "copy", NOTHING, x -> x.copy(0, 1, 0, 0, 0));
        refused(empty, "show", BAD, x -> x.show(0, 0));
        refused(empty, "says", NOTHING, x -> x.says(7, 5));
        refused(empty, "work: ALTER", BAD, x -> x.work(1, 0, 0, 0));
        refused(empty, "work: THIRD", BAD, x -> x.work(2, 0, 0, 0));
        refused(empty, "washed", BAD, x -> x.washed(0, true));
        refused(empty, "lineOf", BAD, x -> x.lineOf(0, 0));
        refused(empty, "goodsOf", BAD, x -> x.goodsOf(0, 0));
        refused(empty, "workOf", BAD, x -> x.workOf(0, 0));
        refused(empty, "cheapest", STUCK, x -> x.cheapest(0, 11));
        refused(empty, "way", BAD, x -> x.way(0, 0));
        refused(empty, "turn", BAD, x -> x.turn(10));
        refused(empty, "total", BAD, x -> x.total(1));
        refused(empty, "worth", -1000002, BAD, x -> x.worth(0), x -> { });
        refused(empty, "edge", BAD, x -> x.edge(0));
        refused(empty, "gains", -1000002, BAD, x -> x.gains(0, 0), x -> { });
        refused(empty, "losers", BAD, x -> x.losers(0));
        refused(empty, "hangs", STUCK, x -> x.hangs());
        refused(empty, "plan", NOTHING, x -> x.plan(0, 0));
        refused(empty, "judge", NOTHING, x -> x.judge(0, 0));
        refused(empty, "year", BAD, x -> x.year(0));
    }

    // Of a full land: one above the last of each.
    private static void fullLand() {
        Supplier<TwoWidths> full = Lands::full;
        refused(full, "show", BAD, x -> x.show(0, 7));
        refused(full, "washed", BAD, x -> x.washed(20, true));
        refused(full, "lineOf", BAD, x -> x.lineOf(20, 0));
        refused(full, "goodsOf", BAD, x -> x.goodsOf(8, 0));
        refused(full, "workOf", BAD, x -> x.workOf(7, 0));
        refused(full, "way", BAD, x -> x.way(8, 0));
        refused(full, "turn", BAD, x -> x.turn(30));
        refused(full, "total", BAD, x -> x.total(128));
        refused(full, "worth", -1000002, BAD, x -> x.worth(7), x -> { });
        refused(full, "edge", BAD, x -> x.edge(7));
        refused(full, "gains", -1000002, BAD, x -> x.gains(0, 7), x -> { });
        refused(full, "losers", BAD, x -> x.losers(7));
        refused(full, "year", BAD, x -> x.year(7));
    }

    // Promises 5, 6 and 47 refuse nothing; NONE and 0 are answers, not REFUSALS.
    private static void nothingRefused() {
        int[][] none = {{-1, 0}, {8, 0}, {3, 0}, {6, 0}, {0, -1}, {0, 5}, {2, 40}, {4, 0}, {MIN, MAX}, {MAX, MIN}};
        for (int[] b : none) {
            C.due("element: none", Lands.mixed().element(b[0], b[1]), 0);
            unchanged(Lands::mixed, "element " + b[0] + " " + b[1], x -> x.element(b[0], b[1]));
        }
        int[] shelves = {-1, 8, 6, MIN, MAX};
        for (int b : shelves) {
            C.due("holds: no SHELF, or NOTHING", Lands.mixed().holds(b), -1);
            unchanged(Lands::mixed, "holds " + b, x -> x.holds(b));
        }
        int[] whats = {-1, 9, 10, 11, 17, MIN, MAX};
        for (int b : whats) {
            C.due("status: another what", Lands.mixed().status(b), -1);
            unchanged(Lands::mixed, "status " + b, x -> x.status(b));
        }
        C.due("washed: was so", Lands.mixed().washed(2, true), 0);
        C.due("washed: was so", Lands.mixed().washed(0, false), 0);
        unchanged(Lands::mixed, "washed away already", x -> x.washed(2, true));
        unchanged(Lands::mixed, "there already", x -> x.washed(0, false));
        C.due("first: NONE", Lands.empty().first(), -1);
        unchanged(Lands::empty, "first: NONE", x -> x.first());
        C.due("edge: NONE", Lands.mixed().edge(2), -1);
        unchanged(Lands::mixed, "edge: NONE", x -> x.edge(2));
        unchanged(Lands::mixed, "judge: NONE", x -> x.judge(0, 5));
    }

    private static void askingChangesNothing() {
        Supplier<TwoWidths> mixed = Lands::mixed;
        unchanged(mixed, "says", x -> x.says(3, 1));
        unchanged(mixed, "lineOf", x -> x.lineOf(3, 6));
        unchanged(mixed, "goodsOf", x -> x.goodsOf(2, 2));
        unchanged(mixed, "workOf", x -> x.workOf(3, 4));
        unchanged(mixed, "cheapest", x -> x.cheapest(0, 2));
        unchanged(mixed, "way", x -> x.way(0, 0));
        unchanged(mixed, "free", x -> x.free());
        unchanged(mixed, "turn", x -> x.turn(0));
        unchanged(mixed, "turn of a LINE", x -> x.turn(13));
        unchanged(mixed, "total", x -> x.total(15));
        unchanged(mixed, "best", x -> x.best());
        unchanged(mixed, "worth", x -> x.worth(3));
        unchanged(mixed, "first", x -> x.first());
        unchanged(mixed, "greedy", x -> x.greedy());
        unchanged(mixed, "gap", x -> x.gap());
        unchanged(mixed, "edge", x -> x.edge(3));
        unchanged(mixed, "never", x -> x.never());
        unchanged(mixed, "one", x -> x.one(2, 99));
        unchanged(mixed, "which", x -> x.which(99));
        unchanged(mixed, "earns", x -> x.earns(5));
        unchanged(mixed, "gains", x -> x.gains(5, 3));
        unchanged(mixed, "losers", x -> x.losers(3));
        unchanged(mixed, "port", x -> x.port(1, false));
        unchanged(mixed, "port", x -> x.port(1, true));
        unchanged(mixed, "hangs", x -> x.hangs());
        unchanged(mixed, "plan", x -> x.plan(0, 3));
        unchanged(mixed, "plan of none", x -> x.plan(4, 0));
        unchanged(Lands::full, "total of all", x -> x.total(127));
        unchanged(Lands::full, "greedy", x -> x.greedy());
    }
}
