import java.util.function.Supplier;

/**
 * Every number that a call takes, by promises: the least and the greatest that may be are taken, one below and one above
 * them (and the ends of all ints) are refused as BAD, each on an object of its own.
 */
public final class EdgesTest {
    private static final Check C = new Check("EdgesTest");

    private interface Call {
        long with(TwoWidths x, int v);
    }

    public static void main(String[] args) {
        shelves();
        copies();
        building();
        worksOfLines();
        worksOfPlaces();
        prices();
        parts();
        ways();
        choices();
        owners();
        years();
        C.end();
    }

    private static void range(Supplier<TwoWidths> land, String name, int low, int high, Call call) {
        range(land, name, low, high, -2, call);
    }

    private static void range(Supplier<TwoWidths> land, String name, int low, int high, long refusal, Call call) {
        int[] may = {low, high};
        for (int v : may) {
            TwoWidths x = land.get();
            int before = x.status(12);
            C.due(name + " " + v + " may be", call.with(x, v) != refusal);
            C.due(name + " " + v + ": nothing refused", x.status(12), before);
        }
        int[] mayNot = {low - 1, high + 1, Integer.MIN_VALUE, Integer.MAX_VALUE};
        for (int v : mayNot) {
            TwoWidths x = land.get();
            int before = x.status(12);
            C.due(name + " " + v + " may not be", call.with(x, v), refusal);
            C.due(name + " " + v + ": refused", x.status(12), before + 1);
        }
    }

    // Promises 2, 3, 7 and 8.
    private static void shelves() {
        range(Lands::mixed, "row: SHELF", 0, 7, (x, v) -> x.row(v, 0, 1));
        range(Lands::mixed, "row: SORT", 0, 4, (x, v) -> x.row(0, v, 1));
        range(Lands::mixed, "row: elements", 0, 40, (x, v) -> x.row(0, 0, v));
        range(Lands::mixed, "set: element of 5", 0, 4, (x, v) -> x.set(0, v, 1));
        range(Lands::mixed, "set: element of 40", 0, 39, (x, v) -> x.set(2, v, 1));
        range(Lands::rows, "set: SHELF", 0, 7, (x, v) -> x.set(v, 0, 1));
        range(Lands::mixed, "show: SHELF", 0, 7, (x, v) -> x.show(v, 0));
        range(Lands::mixed, "show: WORK or NONE", -1, 3, (x, v) -> x.show(0, v));
        range(Lands::full, "show: WORK or NONE of 7", -1, 6, (x, v) -> x.show(0, v));
        range(Lands::shown, "says: SHELF", 0, 7, (x, v) -> x.says(v, 0));
        range(Lands::shown, "says: KIND", 0, 5, (x, v) -> x.says(0, v));
    }

    // Promise 4.
    private static void copies() {
        range(Lands::rows, "copy: SHELF p", 0, 7, (x, v) -> x.copy(v, 1, 0, 0, 1));
        range(Lands::rows, "copy: SHELF q", 0, 7, (x, v) -> x.copy(1, v, 0, 0, 1));
        range(Lands::rows, "copy: n of 40", 0, 40, (x, v) -> x.copy(0, 1, 0, 0, v));
        range(Lands::rows, "copy: i for 1 of 40", 0, 39, (x, v) -> x.copy(0, 1, v, 0, 1));
        range(Lands::rows, "copy: j for 1 of 40", 0, 39, (x, v) -> x.copy(0, 1, 0, v, 1));
        range(Lands::rows, "copy: i for 7 of 40", 0, 33, (x, v) -> x.copy(0, 1, v, 0, 7));
        range(Lands::rows, "copy: j for 7 of 40", 0, 33, (x, v) -> x.copy(0, 1, 0, v, 7));
        range(Lands::rows, "copy: i for all 40", 0, 0, (x, v) -> x.copy(0, 1, v, 0, 40));
        range(Lands::rows, "copy: j for all 40", 0, 0, (x, v) -> x.copy(0, 1, 0, v, 40));
        range(Lands::mixed, "copy: n from 5 to 3", 0, 3, (x, v) -> x.copy(0, 1, 0, 0, v));
        range(Lands::mixed, "copy: n from 3 to 5", 0, 3, (x, v) -> x.copy(1, 0, 0, 0, v));
        range(Lands::mixed, "copy: n of none", 0, 0, (x, v) -> x.copy(4, 4, 0, 0, v));
    }

    // Promises 9 and 10.
    private static void building() {
        range(Lands::mixed, "line: from", 0, 11, (x, v) -> x.line(v, 5, 1, 1, 1, 0));
        range(Lands::mixed, "line: to", 0, 11, (x, v) -> x.line(5, v, 1, 1, 1, 0));
        range(Lands::mixed, "line: WIDTHS", 1, 7, (x, v) -> x.line(0, 1, v, 1, 1, 0));
        range(Lands::mixed, "line: MILES", 1, 60, (x, v) -> x.line(0, 1, 1, v, 1, 0));
        range(Lands::mixed, "line: BEARS", 1, 999, (x, v) -> x.line(0, 1, 1, 1, v, 0));
        range(Lands::mixed, "line: OWNER", 0, 5, (x, v) -> x.line(0, 1, 1, 1, 1, v));
        range(Lands::mixed, "goods: from", 0, 11, (x, v) -> x.goods(v, 5, 1));
        range(Lands::mixed, "goods: to", 0, 11, (x, v) -> x.goods(5, v, 1));
        range(Lands::mixed, "goods: TONS", 1, 99, (x, v) -> x.goods(0, 1, v));
        for (int place = 0; place < 12; place++) {
            C.due("line: unlike PLACES", Lands.mixed().line(place, place, 1, 1, 1, 0), -2);
            C.due("goods: unlike PLACES", Lands.mixed().goods(place, place, 1), -2);
        }
    }

    // Promise 11, ALTER and THIRD: a is a LINE that there is now, b a WIDTH.
    private static void worksOfLines() {
        range(Lands::mixed, "work: KIND", 1, 5, (x, v) -> x.work(v, 0, 2, 1));
        for (int k = 1; k <= 2; k++) {
            int kind = k;
            range(Lands::mixed, "work: LINE of KIND " + k, 0, 3, (x, v) -> x.work(kind, v, 0, 1));
            range(() -> Lands.lines(20), "work: LINE of 20 of KIND " + k, 0, 19, (x, v) -> x.work(kind, v, 0, 1));
            range(() -> Lands.lines(1), "work: LINE of 1 of KIND " + k, 0, 0, (x, v) -> x.work(kind, v, 0, 1));
            range(Lands::mixed, "work: WIDTH of KIND " + k, 0, 2, (x, v) -> x.work(kind, 0, v, 1));
            range(Lands::mixed, "work: COIN of KIND " + k, 0, 9999, (x, v) -> x.work(kind, 0, 0, v));
        }
    }

    // LIFT: a is a PLACE, b a CHANGE; NEW and DOUBLE: unlike PLACES.
    private static void worksOfPlaces() {
        range(Lands::mixed, "work: PLACE of LIFT", 0, 11, (x, v) -> x.work(3, v, 0, 1));
        range(Lands::mixed, "work: CHANGE of LIFT", 0, 99, (x, v) -> x.work(3, 0, v, 1));
        range(Lands::mixed, "work: COIN of LIFT", 0, 9999, (x, v) -> x.work(3, 0, 0, v));
        for (int k = 4; k <= 5; k++) {
            int kind = k;
            range(Lands::mixed, "work: a of KIND " + k, 0, 11, (x, v) -> x.work(kind, v, 5, 1));
            range(Lands::mixed, "work: b of KIND " + k, 0, 11, (x, v) -> x.work(kind, 5, v, 1));
            range(Lands::mixed, "work: COIN of KIND " + k, 0, 9999, (x, v) -> x.work(kind, 0, 1, v));
            for (int place = 0; place < 12; place++) {
                C.due("work: from a PLACE to itself", Lands.mixed().work(k, place, place, 1), -2);
            }
        }
        for (int place = 0; place < 12; place++) {
            C.due("work: LIFT, a and b alike", Lands.mixed().work(3, place, place, 1), 4);
        }
    }

    // Promises 12 to 16.
    private static void prices() {
        range(Lands::mixed, "change: PLACE", 0, 11, (x, v) -> x.change(v, 5));
        range(Lands::mixed, "change: coin", 0, 99, (x, v) -> x.change(5, v));
        range(Lands::mixed, "coin: WIDTH", 0, 2, (x, v) -> x.coin(v, 5));
        range(Lands::mixed, "coin: coin", 0, 9, (x, v) -> x.coin(1, v));
        range(Lands::mixed, "years", 1, 30, (x, v) -> x.years(v));
        range(Lands::mixed, "washed: LINE", 0, 3, (x, v) -> x.washed(v, true));
        range(Lands::full, "washed: LINE of 20", 0, 19, (x, v) -> x.washed(v, true));
        range(Lands::mixed, "feed: bytes", 1, 4, (x, v) -> x.feed(-1, v));
    }

    // Promises 19 to 21.
    private static void parts() {
        range(Lands::mixed, "lineOf: LINE", 0, 3, (x, v) -> x.lineOf(v, 0));
        range(Lands::full, "lineOf: LINE of 20", 0, 19, (x, v) -> x.lineOf(v, 0));
        range(Lands::mixed, "lineOf: what", 0, 6, (x, v) -> x.lineOf(0, v));
        range(Lands::mixed, "goodsOf: GOODS", 0, 2, (x, v) -> x.goodsOf(v, 0));
        range(Lands::full, "goodsOf: GOODS of 8", 0, 7, (x, v) -> x.goodsOf(v, 0));
        range(Lands::mixed, "goodsOf: what", 0, 2, (x, v) -> x.goodsOf(0, v));
        range(Lands::mixed, "workOf: WORK", 0, 3, (x, v) -> x.workOf(v, 0));
        range(Lands::full, "workOf: WORK of 7", 0, 6, (x, v) -> x.workOf(v, 0));
        range(Lands::mixed, "workOf: what", 0, 4, (x, v) -> x.workOf(0, v));
    }

    // Promises 22, 23, 25 and 39.
    private static void ways() {
        range(Lands::mixed, "cheapest: from", 0, 11, (x, v) -> x.cheapest(v, 5));
        range(Lands::mixed, "cheapest: to", 0, 11, (x, v) -> x.cheapest(5, v));
        range(Lands::mixed, "way: GOODS", 0, 2, (x, v) -> x.way(v, 0));
        range(Lands::full, "way: GOODS of 8", 0, 7, (x, v) -> x.way(v, 0));
        range(Lands::mixed, "way: what, below 10", 0, 3, (x, v) -> x.way(0, v));
        range(Lands::mixed, "way: LINE i of 2", 10, 11, (x, v) -> x.way(0, v));
        range(Lands::mixed, "way: LINE i of 1", 10, 10, (x, v) -> x.way(2, v));
        range(Lands::mixed, "turn: what, below 10", 0, 1, (x, v) -> x.turn(v));
        range(Lands::mixed, "turn: LINE", 10, 13, (x, v) -> x.turn(v));
        range(Lands::full, "turn: LINE of 20", 10, 29, (x, v) -> x.turn(v));
        range(Lands::mixed, "port: THROUGH", 0, 11, (x, v) -> x.port(v, false));
        range(Lands::mixed, "port: CHANGED", 0, 11, (x, v) -> x.port(v, true));
    }

    // Promises 26, 28, 32, 34 and 35.
    private static void choices() {
        range(Lands::empty, "total: set of no WORKS", 0, 0, (x, v) -> x.total(v));
        range(Lands::mixed, "total: set of 4", 0, 15, (x, v) -> x.total(v));
        range(Lands::full, "total: set of 7", 0, 127, (x, v) -> x.total(v));
        range(Lands::sevenWorks, "worth: WORK", 0, 6, -1000002, (x, v) -> x.worth(v));
        range(Lands::sevenWorks, "edge: WORK", 0, 6, (x, v) -> x.edge(v));
        range(Lands::mixed, "one: WIDTH", 0, 2, (x, v) -> x.one(v, 5));
        range(Lands::mixed, "one: coin a mile", 0, 99, (x, v) -> x.one(1, v));
        range(Lands::mixed, "which: coin a mile", 0, 99, (x, v) -> x.which(v));
    }

    // Promises 36 to 38.
    private static void owners() {
        range(Lands::mixed, "earns: OWNER", 0, 5, (x, v) -> x.earns(v));
        range(Lands::mixed, "gains: OWNER", 0, 5, -1000002, (x, v) -> x.gains(v, 0));
        range(Lands::sevenWorks, "gains: WORK", 0, 6, -1000002, (x, v) -> x.gains(0, v));
        range(Lands::sevenWorks, "losers: WORK", 0, 6, (x, v) -> x.losers(v));
    }

    // Promises 41 to 44.
    private static void years() {
        range(Lands::plans, "plan: SHELF", 0, 7, (x, v) -> x.plan(v, 1));
        range(Lands::plans, "judge: SHELF", 0, 7, (x, v) -> x.judge(v, 1));
        range(Lands::plans, "plan: n", 0, 30, (x, v) -> x.plan(0, v));
        range(Lands::plans, "judge: n", 0, 30, (x, v) -> x.judge(0, v));
        range(Lands::mixed, "plan: n of 5", 0, 5, (x, v) -> x.plan(0, v));
        range(Lands::mixed, "judge: n of 5", 0, 5, (x, v) -> x.judge(0, v));
        range(Lands::mixed, "plan: n of none", 0, 0, (x, v) -> x.plan(4, v));
        range(Lands::mixed, "judge: n of none", 0, 0, (x, v) -> x.judge(4, v));
        range(Lands::sevenWorks, "year: WORK or NONE", -1, 6, (x, v) -> x.year(v));
        range(Lands::empty, "year: NONE alone", -1, -1, (x, v) -> x.year(v));
        range(Lands::mixed, "run: YEARS", 1, 20, (x, v) -> x.run(v));
    }
}
