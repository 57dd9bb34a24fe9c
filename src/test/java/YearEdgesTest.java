/** The sentences about WORKS' choice, OWNERS, YEARS that go by, image and status that name an edge. */
public final class YearEdgesTest {
    private static final Check C = new Check("YearEdgesTest");

    public static void main(String[] args) {
        newObject();
        noWorks();
        edges();
        greedySets();
        neverInAnySet();
        gainsAndLosers();
        yearsThatGoBy();
        goneFromChoice();
        runsOfYears();
        nothingKept();
        allIsKept();
        keptTwice();
        shelvesAfterBack();
        notKept();
        roomAfterBack();
        statuses();
        refusalCounts();
        C.end();
    }

    // Promise 1: "No LINES, GOODS, WORKS; SHELVES hold NOTHING; THE TAPE is empty."
    private static void newObject() {
        TwoWidths x = new TwoWidths();
        int[] told = {0, 0, 0, 0, 0, 0, 10, 0, 0, -1, -1, -1, 0, 0, 0, 0, 0, -1};
        for (int what = 0; what < told.length; what++) {
            C.due("status " + what, x.status(what), told[what]);
        }
        C.due("free", x.free(), 0);
        C.due("turn", x.turn(0) + x.turn(1), 0);
        C.due("total", x.total(0), 0);
        C.due("which", x.which(99), 0);
        C.due("one", x.one(2, 99), 0);
        C.due("earns", x.earns(5), 0);
        C.due("port", x.port(11, true) + x.port(0, false), 0);
        C.due("year", x.year(-1), 0);
        C.due("run", x.run(20), 0);
        C.due("gone by", x.status(4), 21);
        C.due("wipe", x.wipe(), 0);
        TwoWidths y = new TwoWidths();
        C.due("another one is another", y.status(4), 0);
    }

    private static void noWorks() {
        TwoWidths x = Check.of("line 0 1 width 1 miles 5;goods 0 1 3");
        C.due("best", x.best(), 0);
        C.due("first", x.first(), -1);
        C.due("greedy", x.greedy(), 0);
        C.due("gap", x.gap(), 0);
        C.due("never", x.never(), 0);
        C.due("total", x.total(0), 150);
        C.due("run", x.run(2), 30);
    }

    // Promise 32: "The least number of YEARS (1 to 30) by which WORTH of a WORK would be above 0; NONE: by none of these."
    private static void edges() {
        // a NEW line saves 10 a year
        int[] coins = {0, 9, 10, 11, 289, 290, 299, 300, 301, 999};
        int[] due = {1, 1, 2, 2, 29, 30, 30, -1, -1, -1};
        for (int i = 0; i < coins.length; i++) {
            TwoWidths x = Check.of("line 0 1 width 1 miles 20;goods 0 1 1;work 4 0 1 " + coins[i]);
            C.due("by " + coins[i], x.edge(0), due[i]);
            x.years(1);
            C.due("whatever YEARS are", x.edge(0), due[i]);
            x.years(30);
            C.due("whatever YEARS are", x.edge(0), due[i]);
            C.due("YEARS stay", x.status(6), 30);
        }
        TwoWidths y = Check.of("line 0 1 width 1 miles 20;goods 0 1 1;work 3 0 0 0;work 1 0 1 0;coin 1 2");
        C.due("one that helps nothing for 0 coin", y.edge(0), -1);
        C.due("one that harms", y.edge(1), -1);
        C.due("NONE is no REFUSAL", y.status(12) + y.status(15), 0);
    }

    // Promises 30 and 31.
    private static void greedySets() {
        TwoWidths x = Lands.sevenWorks();
        int set = x.greedy();
        C.due("gap", x.gap(), x.total(set) - x.total(x.best()));
        C.due("never below 0", x.gap() >= 0);
        C.due("nothing is DONE in truth", x.status(3), 0);
        C.due("no YEAR went by", x.status(4), 0);
        // each is worth something alone, none after the other
        TwoWidths y = Check.of("line 0 1 width 1 miles 20;goods 0 1 1;work 4 0 1 99;work 5 0 1 98");
        C.due("greedy", y.greedy(), 2);
        C.due("best", y.best(), 2);
        y.year(1);
        C.due("then none", y.greedy(), 0);
    }

    // Promise 33: "that come to more TOTAL in whatever set of others that aren't DONE they are added to"
    private static void neverInAnySet() {
        // 0 makes 30 of 60 a year, for 300 coin; 1 is of no use for no coin, 2 for 1 coin
        TwoWidths x = Check.of("line 0 3 width 1 miles 60;line 0 2 width 1 miles 10;line 1 3 width 1 miles 10;goods 0 3 1;"
            + "work 4 2 1 300;work 3 4 0 0;work 3 5 0 1");
        C.due("just so much", x.worth(0), 0);
        C.due("as much TOTAL is not more", x.never(), 4);
        x.years(9);
        C.due("more in each set", x.never(), 5);
        x.years(10);
        x.year(2);
        C.due("DONE ones aren't told", x.never(), 0);
        TwoWidths y = Check.of("goods 0 2 1;work 4 0 1 1;work 4 1 2 1");
        C.due("alone each costs, together they help", y.never(), 0);
        C.due("alone", y.worth(0), -1);
        TwoWidths z = Lands.half();
        C.due("the only one costs", z.never(), 1);
        C.due("greedy", z.greedy(), 0);
        z.work(4, 1, 2, 1);
        C.due("another one makes it help", z.never(), 0);
        TwoWidths v = Lands.pair();
        C.due("those not DONE", v.never(), 0);
        C.due("with the one DONE it helps", v.worth(1), 10 * (999 - 20) - 1);
        v.back();
        C.due("as before", v.never(), 1);
        TwoWidths u = Lands.laterPair();
        C.due("it helps", u.worth(0), 10 * (999 - 20) - 1);
        C.due("total", u.total(1), 1 + 200);
        u.back();
        C.due("as before", u.never(), 0);
    }

    // Promises 37 and 38.
    private static void gainsAndLosers() {
        TwoWidths x = new TwoWidths();
        for (int owner = 0; owner < 6; owner++) {
            x.line(2 * owner % 12, 2 * owner % 12 + 1, 1, 20, 99, owner);
            x.goods(2 * owner, 2 * owner + 1, 1);
        }
        for (int owner = 0; owner < 6; owner++) {
            x.work(4, 2 * owner, 2 * owner + 1, 5);
        }
        for (int work = 0; work < 6; work++) {
            C.due("losers by " + work, x.losers(work), 1 << work);
            C.due("he loses", x.gains(work, work), work == 0 ? -10 : -20);
            C.due("OWNER 0 of the NEW one gains", x.gains(0, work), work == 0 ? -10 : 10);
            C.due("others neither", x.gains((work + 1) % 6, work), work == 5 ? 10 : 0);
        }
        x.work(3, 0, 0, 0);
        C.due("nobody", x.losers(6), 0);
        C.due("nobody", x.gains(5, 6), 0);
    }

    // Promise 43: "its COIN and FREE"
    private static void yearsThatGoBy() {
        TwoWidths x = Check.of("line 0 1 width 1 miles 20;goods 0 1 1;work 4 0 1 0");
        x.work(3, 5, 5, 9999);
        C.due("none", x.year(-1), 20);
        C.due("0 coin", x.year(0), 10);
        C.due("9999 coin", x.year(1), 9999 + 10);
        C.due("DONE for good", x.year(0), -5);
        C.due("DONE for good", x.year(1), -5);
        C.due("none", x.year(-1), 10);
        C.due("gone by", x.status(4), 4);
        C.due("spent", x.status(5), 20 + 10 + 10009 + 10);
        C.due("DONE", x.status(3), 2);
        C.due("the NEW LINE is a LINE", x.lineOf(1, 3), 10);
        C.due("it may be altered now", x.work(1, 1, 2, 3), 2);
    }

    // "it is gone then from WORKS' choice (DONE ones aren't DONE again, count no COIN)"
    private static void goneFromChoice() {
        TwoWidths x = Check.of("line 0 1 width 1 miles 20;goods 0 1 1;work 4 0 1 50;work 4 0 1 60");
        x.year(0);
        C.due("total of the DONE one", x.total(1), 100);
        C.due("total of the other", x.total(2), 160);
        C.due("total of both", x.total(3), 160);
        C.due("no LINE more for the asking", x.status(0), 2);
        x.washed(1, true);
        C.due("not DONE again though it would help", x.total(1), 200);
        C.due("best", x.best(), 2);
        C.due("first", x.first(), 1);
        C.due("greedy", x.greedy(), 2);
        C.due("worth", x.worth(0), -1000005);
        C.due("gains", x.gains(0, 0), -1000005);
        C.due("edge", x.edge(0), -5);
        C.due("losers", x.losers(0), -5);
        C.due("refused STUCK", x.status(15), 4);
        C.due("told as DONE", x.workOf(0, 4) * 10 + x.workOf(1, 4), 10);
        C.due("all else as told", x.workOf(0, 3), 50);
    }

    // Promise 44: "n YEARS (1 to 20) go by, each with FIRST (or none)"
    private static void runsOfYears() {
        TwoWidths x = Check.of("line 0 1 width 1 miles 20;goods 0 1 1;work 4 0 1 50;work 4 0 1 99;work 3 0 0 0");
        C.due("1", x.run(1), 60);
        C.due("FIRST", x.workOf(0, 4), 1);
        C.due("20, none of them with a WORK", x.run(20), 200);
        C.due("DONE", x.status(3), 1);
        C.due("gone by", x.status(4), 21);
        C.due("spent", x.status(5), 260);
        C.due("YEARS stay", x.status(6), 10);
        C.due("0", x.run(0), -2);
        C.due("21", x.run(21), -2);
        C.due("gone by", x.status(4), 21);
        C.due("spent", x.status(5), 260);
        // all seven, one a YEAR, and none after them
        TwoWidths y = new TwoWidths();
        y.goods(0, 8, 1);
        for (int i = 0; i < 8; i++) {
            y.line(i, i + 1, 1 + i % 2, 1, 99, 0);
        }
        for (int i = 0; i < 7; i++) {
            y.work(3, i + 1, 0, 0);
        }
        C.due("62 a year, 9 less each", y.run(7), 62 + 53 + 44 + 35 + 26 + 17 + 8);
        C.due("all DONE", y.status(3), 7);
        C.due("none", y.run(1), 8);
    }

    // Promise 46: "STUCK: nothing was."
    private static void nothingKept() {
        TwoWidths x = Lands.sevenWorks();
        C.due("back", x.back(), -5);
        C.due("back", x.back(), -5);
        C.due("refused STUCK", x.status(15), 2);
        C.due("all stays", x.status(2), 7);
        C.due("image", x.image(), 1);
        C.due("back", x.back(), 1);
        C.due("back again", x.back(), 1);
        TwoWidths y = new TwoWidths();
        C.due("an empty one is kept", y.image(), 1);
        y.line(0, 1, 1, 1, 1, 1);
        y.goods(0, 1, 1);
        y.work(3, 0, 0, 0);
        C.due("back", y.back(), 1);
        C.due("empty again", y.status(0) + y.status(1) + y.status(2), 0);
    }

    // "All is kept", "All is again as it was kept"
    private static void allIsKept() {
        TwoWidths x = Lands.full();
        x.image();
        int free = x.free();
        int total = x.total(127);
        x.years(1);
        for (int i = 0; i < 20; i++) {
            x.washed(i, true);
        }
        for (int p = 0; p < 12; p++) {
            x.change(p, p);
        }
        for (int w = 0; w < 3; w++) {
            x.coin(w, 7);
        }
        for (int w = 0; w < 6; w++) {
            x.year(w);
        }
        C.due("otherwise", x.free() != free);
        C.due("back", x.back(), 1);
        C.due("free", x.free(), free);
        C.due("total", x.total(127), total);
        C.due("DONE", x.status(3), 1);
        C.due("YEARS", x.status(6), 10);
        for (int i = 0; i < 20; i++) {
            C.due("there", x.lineOf(i, 6), 0);
        }
        for (int p = 0; p < 12; p++) {
            C.due("CHANGE", x.change(p, 9), 9);
        }
        for (int w = 0; w < 3; w++) {
            C.due("COIN", x.coin(w, 1), 1);
        }
        for (int w = 0; w < 7; w++) {
            C.due("DONE", x.workOf(w, 4), w == 6 ? 1 : 0);
        }
    }

    private static void keptTwice() {
        TwoWidths x = new TwoWidths();
        x.years(3);
        x.image();
        x.years(4);
        x.image();
        x.years(5);
        x.back();
        C.due("the later image", x.status(6), 4);
        x.years(6);
        x.back();
        C.due("it stays kept", x.status(6), 4);
        x.years(7);
        C.due("what is kept does not follow", x.back(), 1);
        C.due("the later image", x.status(6), 4);
    }

    // "(SHELVES with WORKS hold those of the same numbers, or NOTHING)"
    private static void shelvesAfterBack() {
        TwoWidths x = new TwoWidths();
        x.work(3, 0, 0, 11);
        x.work(3, 0, 0, 22);
        x.show(0, 0);
        x.image();
        x.work(3, 0, 0, 33);
        x.year(1);
        x.show(1, 1);
        x.show(2, 2);
        x.show(3, -1);
        x.row(4, 1, 2);
        x.set(4, 1, 5);
        C.due("in use", x.status(8), 4);
        x.back();
        C.due("as before", x.holds(0), 10);
        C.due("of the same number", x.holds(1), 11);
        C.due("not DONE then", x.workOf(1, 4), 0);
        C.due("its COIN", x.says(1, 0), 22);
        C.due("NOTHING", x.holds(2), -1);
        C.due("NOTHING", x.says(2, 0), -4);
        C.due("NOTHING", x.holds(3), -1);
        C.due("a ROW stays", x.holds(4), 1);
        C.due("its elements stay", x.element(4, 1), 5);
        C.due("in use", x.status(8), 3);
        TwoWidths y = new TwoWidths();
        y.image();
        for (int w = 0; w < 7; w++) {
            y.work(3, 0, 0, w);
            y.show(w, w);
        }
        y.back();
        for (int s = 0; s < 8; s++) {
            C.due("no WORKS then", y.holds(s), -1);
        }
        C.due("in use", y.status(8), 0);
        // the other way: at back() there are more WORKS than now
        TwoWidths z = new TwoWidths();
        z.work(3, 0, 0, 5);
        z.show(0, 0);
        z.image();
        z.show(0, -1);
        z.back();
        C.due("SHELVES are not kept", z.holds(0), -1);
    }

    // "All is kept, but THE TAPE, SHELVES and status()"
    private static void notKept() {
        TwoWidths x = new TwoWidths();
        Check.feed(x, "years");
        x.row(0, 0, 3);
        x.set(0, 0, 1);
        x.image();
        Check.feed(x, " 7;goods 0 1 2");
        x.set(0, 0, 2);
        x.row(1, 4, 1);
        x.row(8, 0, 0);
        C.due("back", x.back(), 1);
        C.due("THE TAPE stays", x.status(7), 19);
        C.due("the ROW stays", x.element(0, 0), 2);
        C.due("the other ROW stays", x.holds(1), 4);
        C.due("REFUSALS stay", x.status(12), 1);
        C.due("and is read", x.land(), 2);
        C.due("YEARS", x.status(6), 7);
        x.back();
        C.due("YEARS", x.status(6), 10);
        C.due("GOODS", x.status(1), 0);
        x.image();
        x.year(-1);
        x.back();
        C.due("gone by", x.status(4), 1);
    }

    private static void roomAfterBack() {
        TwoWidths x = new TwoWidths();
        x.image();
        for (int i = 0; i < 20; i++) {
            x.line(0, 1, 7, 1, 1, 1);
            x.washed(i, true);
        }
        for (int i = 0; i < 8; i++) {
            x.goods(0, 1, 9);
        }
        for (int i = 0; i < 7; i++) {
            x.work(1, i, 0, 9);
            x.year(i);
        }
        x.back();
        C.due("a LINE", x.line(2, 3, 2, 4, 5, 0), 0);
        C.due("there", x.lineOf(0, 6), 0);
        C.due("its own", x.lineOf(0, 2), 2);
        C.due("GOODS", x.goods(3, 2, 4), 0);
        C.due("a WORK", x.work(3, 0, 1, 2), 0);
        C.due("not DONE", x.workOf(0, 4), 0);
        C.due("free", x.free(), 16);
        C.due("no second WORK", x.workOf(1, 0), -2);
        C.due("no ALTER of a LINE that was", x.work(1, 1, 0, 0), -2);
    }

    // Promise 47.
    private static void statuses() {
        TwoWidths x = Lands.full();
        int[] told = {20, 8, 7, 1, 1, x.free() + 9993, 10, 0, 1, -1, -1, -1, 0, 0, 0, 0, 0, -1};
        for (int what = 0; what < told.length; what++) {
            C.due("status " + what, x.status(what), told[what]);
        }
        C.due("below", x.status(-1), -1);
        C.due("far below", x.status(Integer.MIN_VALUE), -1);
        C.due("far above", x.status(Integer.MAX_VALUE), -1);
        TwoWidths y = Lands.fullTape();
        C.due("THE TAPE", y.status(7), 250);
        TwoWidths z = Lands.rows();
        C.due("SHELVES", z.status(8), 8);
    }

    // "12 to 16: REFUSALS -2 to -6"
    private static void refusalCounts() {
        TwoWidths x = Lands.full();
        x.show(1, 0);
        for (int i = 1; i <= 5; i++) {
            x.row(8, 0, 0);
            C.due("BAD", x.status(12), i);
        }
        for (int i = 1; i <= 4; i++) {
            x.set(1, 0, 0);
            C.due("OTHER", x.status(13), i);
        }
        for (int i = 1; i <= 3; i++) {
            x.set(2, 0, 0);
            C.due("NOTHING", x.status(14), i);
        }
        for (int i = 1; i <= 2; i++) {
            x.year(6);
            C.due("STUCK", x.status(15), i);
        }
        x.line(0, 1, 1, 1, 1, 1);
        C.due("FULL", x.status(16), 1);
        x.worth(7);
        C.due("-1000002 is BAD", x.status(12), 6);
        x.gains(0, 6);
        C.due("-1000005 is STUCK", x.status(15), 3);
        x.land();
        C.due("-20 is BAD", x.status(12), 7);
        int[] counts = {7, 4, 3, 3, 1};
        for (int i = 0; i < 5; i++) {
            C.due("each", x.status(12 + i), counts[i]);
        }
    }
}
