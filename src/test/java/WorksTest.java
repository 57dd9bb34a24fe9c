/** Promises 26 to 35. */
public final class WorksTest {
    private static final int MIN = Integer.MIN_VALUE;
    private static final int MAX = Integer.MAX_VALUE;
    private static final Check C = new Check("WorksTest");

    public static void main(String[] args) {
        totals();
        kinds();
        noRoom();
        best();
        worths();
        greedyTrap();
        greedyOrder();
        greedyAll();
        never();
        doneOnes();
        oneWidth();
        C.end();
    }

    // Two lines of unlike widths with 10 tons over both: 5 + 9 + 5 a ton, 190 a year.
    private static TwoWidths twoLines() {
        return Check.of("line 0 1 width 1 miles 5;line 1 2 width 2 miles 5;goods 0 2 10");
    }

    private static void totals() {
        TwoWidths x = twoLines();
        C.due("of no works", x.total(0), 1900);
        C.due("no such work", x.total(1), -2);
        x.work(2, 1, 0, 100);
        x.work(3, 1, 2, 50);
        C.due("none", x.total(0), 1900);
        C.due("third", x.total(1), 100 + 1000);
        C.due("lift", x.total(2), 50 + 1200);
        C.due("both", x.total(3), 150 + 1000);
        x.years(1);
        C.due("a year", x.total(3), 250);
        int[] bad = {4, -1, MIN, MAX};
        for (int b : bad) {
            C.due("bad set", x.total(b), -2);
        }
        C.due("refused bad", x.status(12), 1 + bad.length);
        C.due("nothing is done in truth", x.free(), 190);
        C.due("nothing is done in truth", x.status(3), 0);
    }

    private static void kinds() {
        TwoWidths x = twoLines();
        x.work(1, 1, 0, 0);
        x.work(1, 1, 2, 0);
        x.work(2, 1, 2, 0);
        x.work(3, 1, 0, 0);
        x.work(4, 2, 0, 0);
        x.work(5, 0, 2, 0);
        C.due("alter", x.total(1), 1000);
        C.due("alter to another", x.total(2), 1900);
        C.due("by numbers: the later alter counts", x.total(3), 1900);
        C.due("third leaves what there was", x.total(4), 1900);
        C.due("alter and third", x.total(5), 1000);
        C.due("lift", x.total(8), 1000);
        C.due("new is of 10 miles", x.total(16), 1000);
        C.due("double is of 10 miles", x.total(32), 1000);
        x.change(1, 50);
        C.due("new beside dear changes", x.total(16), 1000);
        C.due("worth", x.worth(4), 10 * (600 - 100));
        x.year(4);
        x.year(5);
        int[] built = {2, 0, 7, 10, 99, 0, 0};
        int[] doubled = {0, 2, 7, 10, 198, 0, 0};
        for (int what = 0; what <= 6; what++) {
            C.due("new line", x.lineOf(2, what), built[what]);
            C.due("double line", x.lineOf(3, what), doubled[what]);
        }
        x.year(2);
        C.due("third has both", x.lineOf(1, 2), 6);
        x.work(2, 1, 1, 0);
        x.year(6);
        C.due("third of a width that is there", x.lineOf(1, 2), 6);
        x.year(0);
        C.due("alter has one alone", x.lineOf(1, 2), 1);
        x.year(3);
        C.due("lifted", x.change(1, 9), 0);
    }

    private static void noRoom() {
        TwoWidths x = new TwoWidths();
        for (int i = 0; i < 19; i++) {
            x.line(0, 1, 1, 50, 9, 0);
        }
        x.goods(0, 1, 1);
        x.goods(2, 3, 1);
        x.work(4, 2, 3, 7);
        x.work(5, 0, 1, 3);
        C.due("the first one has the room", x.total(3), 10 + 10 * (50 + 10));
        C.due("the other one alone", x.total(2), 3 + 10 * (10 + 999));
        C.due("it costs its coin all the same", x.year(1), 3 + 10 + 999);
        C.due("no room", x.year(0), 7 + 10 + 999);
        C.due("lines", x.status(0), 20);
        C.due("both done", x.status(3), 2);
    }

    private static void best() {
        C.due("no works", new TwoWidths().best(), 0);
        TwoWidths x = twoLines();
        x.work(3, 1, 0, 900);
        C.due("of equal ones the least as bits", x.best(), 0);
        x.work(3, 1, 0, 899);
        C.due("one coin less", x.best(), 2);
        x.work(2, 1, 0, 899);
        C.due("equal to the other", x.best(), 2);
        x.work(2, 0, 1, 898);
        C.due("better still", x.best(), 8);
        // two works that help together alone
        TwoWidths y = Check.of("line 0 1 width 1 miles 1;line 1 2 width 1 miles 1;line 0 2 width 2 miles 30;"
            + "goods 0 2 10;work 1 0 2 0;work 1 1 2 0");
        C.due("neither alone", y.first(), -1);
        C.due("best is none", y.best(), 0);
        y.washed(0, true);
        y.work(4, 0, 3, 10);
        y.work(4, 3, 2, 10);
        C.due("new lines one after another", y.best(), 12);
        C.due("total", y.total(12), 20 + 10 * 200);
        C.due("greedy sees none of it", y.greedy(), 0);
        C.due("gap", y.gap(), 3000 - 2020);
    }

    private static void worths() {
        TwoWidths x = twoLines();
        C.due("no such one", x.worth(0), -1000002);
        C.due("no such one", x.edge(0), -2);
        C.due("none", x.first(), -1);
        x.work(3, 1, 0, 900);
        C.due("worth", x.worth(0), 0);
        C.due("0 is not above 0", x.first(), -1);
        TwoWidths y = twoLines();
        y.work(3, 1, 0, 899);
        C.due("1 is above 0", y.first(), 0);
        C.due("edge", x.edge(0), 11);
        x.work(3, 1, 9, 0);
        C.due("worth of what does nothing", x.worth(1), 0);
        C.due("by none", x.edge(1), -1);
        x.work(3, 1, 99, 5);
        // the change at 1 dearer: 109 a ton
        C.due("worth below 0", x.worth(2), -10 * 900 - 5);
        C.due("by none", x.edge(2), -1);
        x.work(3, 1, 8, 40);
        x.work(3, 1, 7, 140);
        C.due("worth", x.worth(3), 60);
        C.due("worth", x.worth(4), 60);
        C.due("of equal ones the first", x.first(), 3);
        C.due("edge", x.edge(3), 5);
        x.work(3, 1, 8, 299);
        x.work(3, 1, 8, 300);
        C.due("edge at 30", x.edge(5), 30);
        C.due("edge of what a year pays", edgeOf(9), 1);
        C.due("edge of what a year just pays", edgeOf(10), 2);
        C.due("edge beyond 30", x.edge(6), -1);
        x.years(1);
        C.due("edge is not by the years there are", x.edge(3), 5);
        C.due("worth is", x.worth(3), -30);
        C.due("bad", x.worth(7), -1000002);
        C.due("bad", x.worth(MIN), -1000002);
        C.due("bad", x.edge(-1), -2);
        C.due("bad", x.edge(MAX), -2);
        C.due("refused bad", x.status(12), 6);
        C.due("nothing stuck", x.status(15), 0);
    }

    private static int edgeOf(int coins) {
        TwoWidths x = twoLines();
        x.work(3, 1, 8, coins);
        return x.edge(0);
    }

    private static void greedyTrap() {
        // one lift helps at once; two thirds together would be cheaper, but not after it
        TwoWidths x = Check.of("line 0 1 width 1 miles 5;line 1 2 width 2 miles 5;line 2 3 width 1 miles 5;"
            + "goods 0 3 10;work 2 1 0 500;work 3 1 0 300;work 3 2 0 300");
        // now 33 a ton, 3300; third 15 a ton: worth 1300; lifts each worth 600
        C.due("first", x.first(), 0);
        C.due("greedy", x.greedy(), 1);
        C.due("best", x.best(), 1);
        C.due("gap", x.gap(), 0);
        TwoWidths y = Check.of("line 0 1 width 1 miles 5;line 1 2 width 2 miles 5;line 2 3 width 1 miles 5;"
            + "goods 0 1 10;goods 0 2 10;goods 1 3 10;work 3 1 0 90;work 2 1 0 801;work 3 2 0 90");
        // third: 18 a ton and year for 801: worth 999; lifts: 810 each; after the third lifts are worth nothing
        C.due("first", y.first(), 1);
        C.due("greedy", y.greedy(), 2);
        C.due("best", y.best(), 5);
        C.due("gap", y.gap(), 801 - 180);
        C.due("nothing is done in truth", y.status(3), 0);
    }

    private static void greedyOrder() {
        // both lift one place: greedy does the better one first, then the other one is worth less than nothing;
        // an order by numbers would end otherwise
        TwoWidths x = twoLines();
        x.work(3, 1, 0, 0);
        x.work(3, 1, 5, 0);
        C.due("greedy", x.greedy(), 1);
        C.due("best", x.best(), 1);
        C.due("by numbers the later counts", x.total(3), 1500);
        // after alter 0 (first, worth most) third 1 is worth more coin: the set by numbers is done otherwise
        TwoWidths y = Check.of("line 0 1 width 2 miles 5;line 1 2 width 2 miles 5;line 1 3 width 1 miles 5;"
            + "goods 0 2 1;goods 0 3 9;work 2 0 1 5;work 1 0 0 100");
        // now 10 + 9 * 19 = 181; alter: 19 + 90 = 109, worth 620; then third: 10 + 90 = 100, worth 85
        C.due("first", y.first(), 1);
        C.due("greedy", y.greedy(), 3);
        C.due("total by numbers: the alter undoes the third", y.total(3), 105 + 1090);
        C.due("best", y.best(), 2);
        C.due("gap", y.gap(), 5);
    }

    private static void greedyAll() {
        // eight lines of widths in turn: seven changes, and a lift for each
        TwoWidths x = new TwoWidths();
        for (int i = 0; i < 8; i++) {
            x.line(i, i + 1, 1 + i % 2, 1, 9, 0);
        }
        for (int i = 0; i < 7; i++) {
            x.work(3, i + 1, 0, 7 - i);
        }
        x.goods(0, 8, 1);
        C.due("first", x.first(), 6);
        C.due("greedy", x.greedy(), 127);
        C.due("best", x.best(), 127);
        C.due("total", x.total(127), 28 + 80);
        C.due("gap", x.gap(), 0);
        C.due("run", x.run(8), 28 + 62 + 53 + 44 + 35 + 26 + 17 + 8 + 8);
        C.due("all done", x.status(3), 7);
    }

    private static void never() {
        TwoWidths x = twoLines();
        C.due("no works", x.never(), 0);
        x.work(3, 1, 0, 0);
        x.work(3, 1, 9, 0);
        x.work(3, 5, 0, 1);
        x.work(3, 5, 0, 0);
        x.work(3, 1, 8, 9999);
        // 0 helps; 1 comes to as much with none; 2 costs a coin for nothing; 3 nothing; 4 costs more than it helps
        C.due("never", x.never(), 4 | 16);
        // one that helps only beside another
        TwoWidths y = Check.of("goods 0 2 10;work 4 0 1 1;work 4 1 2 1;work 4 5 6 1");
        C.due("never", y.never(), 4);
        y.year(1);
        C.due("never of those not done", y.never(), 4);
        y.year(2);
        C.due("done ones are not told", y.never(), 0);
    }

    private static void doneOnes() {
        TwoWidths x = twoLines();
        x.work(3, 1, 0, 100);
        x.work(2, 1, 0, 100);
        C.due("year", x.year(0), 200);
        C.due("total of a done one", x.total(1), 1000);
        C.due("total", x.total(3), 1100);
        C.due("best", x.best(), 0);
        C.due("worth", x.worth(0), -1000005);
        C.due("edge", x.edge(0), -5);
        C.due("refused stuck", x.status(15), 2);
        C.due("first", x.first(), -1);
        C.due("greedy", x.greedy(), 0);
        C.due("never", x.never(), 2);
        x.change(1, 20);
        // the lift is done, not again: the change is dear and stays so
        C.due("done ones aren't done again", x.total(1), 3000);
        C.due("first", x.first(), 1);
        C.due("best has no done one", x.best(), 2);
        C.due("greedy has no done one", x.greedy(), 2);
    }

    private static void oneWidth() {
        TwoWidths x = Check.of("line 0 1 width 1 miles 5;line 1 2 width 6 miles 7;line 5 6 width 2 miles 60;goods 0 2 10");
        x.washed(2, true);
        C.due("width 0", x.one(0, 9), 7 * 9 + 10 * 120);
        C.due("width 1", x.one(1, 9), 5 * 9 + 10 * 120);
        C.due("width 2", x.one(2, 9), 5 * 9 + 10 * 120);
        C.due("which: of equal ones the first", x.which(9), 1);
        C.due("which by 0 coin", x.which(0), 0);
        x.coin(1, 2);
        C.due("which", x.which(99), 2);
        x.coin(2, 9);
        C.due("which", x.which(99), 0);
        C.due("one by coin of the width", x.one(1, 0), 10 * 240);
        x.washed(2, false);
        C.due("lines without goods count too", x.one(0, 9), 67 * 9 + 1200);
        x.goods(0, 9, 1);
        C.due("goods without a way", x.one(0, 0), 1200 + 9990);
        C.due("nothing changed", x.lineOf(0, 2) * 10 + x.lineOf(1, 2), 16);
        int[][] bad = {{-1, 0}, {3, 0}, {0, -1}, {0, 100}, {MIN, MAX}};
        for (int[] b : bad) {
            C.due("bad one", x.one(b[0], b[1]), -2);
        }
        int[] badWhich = {-1, 100, MIN, MAX};
        for (int b : badWhich) {
            C.due("bad which", x.which(b), -2);
        }
        C.due("refused bad", x.status(12), bad.length + badWhich.length);
        C.due("an empty land", new TwoWidths().which(5), 0);
        C.due("an empty land", new TwoWidths().one(2, 5), 0);
    }
}
