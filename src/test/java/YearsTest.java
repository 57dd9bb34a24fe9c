/** Promises 41 to 47. */
public final class YearsTest {
    private static final int MIN = Integer.MIN_VALUE;
    private static final int MAX = Integer.MAX_VALUE;
    private static final Check C = new Check("YearsTest");

    public static void main(String[] args) {
        plans();
        wrongPlans();
        planRefusals();
        plansOfDone();
        years();
        runs();
        images();
        statuses();
        C.end();
    }

    // 190 a year at first; works 0 (third) and 1 (lift to 0): 100 a year; 2 (lift to 4): 140
    private static TwoWidths land() {
        return Check.of("line 0 1 width 1 miles 5;line 1 2 width 2 miles 5;goods 0 2 10;"
            + "work 2 1 0 70;work 3 1 0 30;work 3 1 4 11");
    }

    private static void put(TwoWidths x, int s, long... elements) {
        for (int i = 0; i < elements.length; i++) {
            x.set(s, i, elements[i]);
        }
    }

    private static void plans() {
        TwoWidths x = land();
        x.row(0, 3, 40);
        put(x, 0, -1, 2, 99, 1, Long.MIN_VALUE, 4294967296L, 3);
        C.due("plan of 0 years", x.plan(0, 0), 0);
        C.due("a year of none", x.plan(0, 1), 190);
        C.due("a year with a work", x.plan(0, 2), 190 + 11 + 140);
        C.due("others are none", x.plan(0, 3), 190 + 11 + 140 + 140);
        C.due("a work more", x.plan(0, 4), 190 + 11 + 140 + 140 + 30 + 100);
        C.due("and none again", x.plan(0, 7), 190 + 11 + 140 + 140 + 30 + 400);
        C.due("judge", x.judge(0, 7), -1);
        C.due("judge of none", x.judge(0, 0), -1);
        put(x, 0, 1, 2);
        C.due("in the order of the plan", x.plan(0, 2), 30 + 100 + 11 + 140);
        C.due("nothing is done in truth", x.free(), 190);
        C.due("no years gone", x.status(4), 0);
        x.row(1, 4, 2);
        put(x, 1, 7, 0);
        C.due("booleans tell works 1 and 0", x.plan(1, 2), 30 + 100 + 70 + 100);
        x.row(2, 0, 1);
        put(x, 2, 257);
        C.due("a byte keeps its lowest bits", x.plan(2, 1), 130);
        x.row(3, 1, 40);
        for (int i = 0; i < 40; i++) {
            x.set(3, i, -1);
        }
        C.due("30 years", x.plan(3, 30), 30 * 190);
        x.years(1);
        C.due("by its own years alone", x.plan(3, 30), 30 * 190);
    }

    private static void wrongPlans() {
        TwoWidths x = land();
        x.row(0, 2, 6);
        put(x, 0, 9, 9, 1, 0, 1, 0);
        C.due("others may be told again", x.judge(0, 4), -1);
        C.due("wrong at the second telling", x.judge(0, 5), 4);
        C.due("the first one", x.judge(0, 6), 4);
        C.due("stuck", x.plan(0, 5), -5);
        C.due("not wrong so far", x.plan(0, 4), 380 + 30 + 100 + 70 + 100);
        C.due("refused stuck", x.status(15), 1);
        x.row(1, 2, 2);
        C.due("0 is a work", x.judge(1, 2), 1);
        put(x, 1, 3, 3);
        C.due("the number of works is none", x.judge(1, 2), -1);
    }

    private static void planRefusals() {
        TwoWidths x = land();
        x.row(0, 0, 5);
        x.show(1, 0);
        int[][] due = {{-1, 1, -2}, {8, 1, -2}, {0, -1, -2}, {0, 31, -2}, {1, 31, -2}, {2, -1, -2}, {1, 30, -3},
            {2, 30, -4}, {2, 0, -4}, {1, 0, -3}, {0, 6, -2}, {0, 30, -2}, {MIN, MAX, -2}, {MAX, MIN, -2}};
        for (int[] d : due) {
            C.due("plan " + d[0] + " " + d[1], x.plan(d[0], d[1]), d[2]);
            C.due("judge " + d[0] + " " + d[1], x.judge(d[0], d[1]), d[2]);
        }
        C.due("refused bad", x.status(12), 20);
        C.due("refused other", x.status(13), 4);
        C.due("refused nothing", x.status(14), 4);
        C.due("fewer elements before wrong", x.plan(0, 6), -2);
    }

    private static void plansOfDone() {
        TwoWidths x = land();
        x.row(0, 0, 3);
        put(x, 0, 2, 2, 1);
        C.due("wrong", x.judge(0, 3), 1);
        x.year(2);
        C.due("one done for good is as none", x.judge(0, 3), -1);
        C.due("and costs no coin", x.plan(0, 3), 140 + 140 + 30 + 100);
    }

    private static void years() {
        TwoWidths x = land();
        C.due("a year of none", x.year(-1), 190);
        C.due("a year with a lift", x.year(2), 11 + 140);
        C.due("a year of none", x.year(-1), 140);
        C.due("a year with the third", x.year(0), 70 + 100);
        C.due("done", x.year(0), -5);
        C.due("line 1 has both", x.lineOf(1, 2), 3);
        C.due("years gone by", x.status(4), 4);
        C.due("spent", x.status(5), 190 + 151 + 140 + 170);
        C.due("done for good", x.status(3), 2);
        C.due("works", x.status(2), 3);
        int[] bad = {-2, 3, MIN, MAX};
        for (int b : bad) {
            C.due("bad year", x.year(b), -2);
        }
        C.due("refused bad", x.status(12), bad.length);
        C.due("refused stuck", x.status(15), 1);
        C.due("refused ones are no years", x.status(4), 4);
        C.due("years are as they were", x.status(6), 10);
    }

    private static void runs() {
        TwoWidths x = land();
        // lift to 0 first: worth 870 (third 830, lift to 4 489); nothing after it
        C.due("run", x.run(1), 130);
        C.due("done", x.workOf(1, 4), 1);
        C.due("run", x.run(20), 2000);
        C.due("done", x.status(3), 1);
        C.due("years gone by", x.status(4), 21);
        C.due("spent", x.status(5), 2130);
        int[] bad = {0, 21, -1, MIN, MAX};
        for (int b : bad) {
            C.due("bad run", x.run(b), -2);
        }
        C.due("refused bad", x.status(12), bad.length);
        TwoWidths y = land();
        y.goods(1, 2, 5);
        y.line(4, 5, 1, 60, 9, 0);
        y.goods(4, 5, 9);
        y.work(4, 4, 5, 400);
        C.due("the worthiest first, then the next", y.run(2), 400 + 190 + 25 + 90 + 30 + 100 + 25 + 90);
        C.due("both done", y.workOf(3, 4) * 10 + y.workOf(1, 4), 11);
        C.due("the run of an empty land", new TwoWidths().run(20), 0);
    }

    private static void images() {
        TwoWidths x = land();
        C.due("nothing was kept", x.back(), -5);
        x.change(5, 55);
        x.coin(2, 5);
        x.years(12);
        C.due("image", x.image(), 1);
        x.line(4, 5, 1, 1, 1, 1);
        x.goods(4, 5, 1);
        C.due("work", x.work(1, 2, 0, 5), 3);
        x.change(5, 11);
        x.coin(2, 9);
        x.years(3);
        x.washed(0, true);
        x.year(0);
        x.show(0, 3);
        x.show(1, 0);
        x.row(2, 0, 4);
        x.set(2, 3, 9);
        x.feed(32, 1);
        x.row(9, 9, 9);
        C.due("back", x.back(), 1);
        C.due("lines", x.status(0), 2);
        C.due("goods", x.status(1), 1);
        C.due("works", x.status(2), 3);
        C.due("done", x.status(3), 0);
        C.due("years", x.status(6), 12);
        C.due("there again", x.lineOf(0, 6), 0);
        C.due("widths again", x.lineOf(1, 2), 2);
        C.due("free", x.free(), 190);
        C.due("worth again", x.worth(0), 12 * 90 - 70);
        C.due("change", x.change(5, 55), 55);
        C.due("coin", x.coin(2, 5), 5);
        C.due("a shelf with a work that is no more", x.holds(0), -1);
        C.due("a shelf with a work that is", x.holds(1), 10);
        C.due("a shelf with a row", x.holds(2), 0);
        C.due("its elements", x.element(2, 3), 9);
        C.due("the tape stays", x.status(7), 1);
        C.due("refusals stay", x.status(12), 1);
        C.due("refusals stay", x.status(15), 1);
        // the document keeps all but status(): what status() alone tells of years stays as it went on
        C.due("years gone by stay", x.status(4), 1);
        x.year(1);
        C.due("back again", x.back(), 1);
        C.due("done", x.status(3), 0);
        x.goods(1, 2, 1);
        x.image();
        x.goods(1, 2, 1);
        x.back();
        C.due("the last image counts", x.status(1), 2);
        C.due("a work may come again", x.work(3, 0, 0, 8), 3);
        C.due("the shelf holds nothing still", x.holds(0), -1);
    }

    private static void statuses() {
        TwoWidths x = land();
        x.row(0, 0, 0);
        x.show(7, 2);
        x.feed(0, 3);
        x.back();
        x.set(1, 0, 0);
        x.set(7, 0, 0);
        x.set(9, 0, 0);
        for (int i = 0; i < 8; i++) {
            x.goods(0, 1, 1);
        }
        int[] due = {2, 8, 3, 0, 0, 0, 10, 3, 2, -1, -1, -1, 1, 1, 1, 1, 1, -1};
        for (int what = 0; what < due.length; what++) {
            C.due("status " + what, x.status(what), due[what]);
        }
        C.due("another", x.status(-1), -1);
        C.due("another", x.status(MIN), -1);
        C.due("another", x.status(MAX), -1);
        C.due("that is no refusal", x.status(12), 1);
        x.show(7, -1);
        C.due("in use", x.status(8), 1);
    }
}
