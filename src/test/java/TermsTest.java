/** The sentences of "Terms" about THE LAND, WAYS and WORKS that name an edge, each with a test of its own. */
public final class TermsTest {
    private static final Check C = new Check("TermsTest");

    public static void main(String[] args) {
        placesAndWidths();
        twentyLines();
        setsOfWidths();
        miles();
        bears();
        owners();
        thereAtFirst();
        changeAtFirst();
        changesAtTheEdges();
        coins();
        eightGoods();
        tons();
        yearsToTotal();
        sevenWorks();
        kindsUnderKinds();
        whatWorksDo();
        newWithoutRoom();
        byNumbers();
        widthAtFirst();
        changeFromAnyToAny();
        changeAtEachPlace();
        rowsInTheirOrder();
        noNodeTwice();
        costlessSteps();
        costlessRounds();
        aLongWay();
        withoutAWay();
        asAWhole();
        zeroAtLeast();
        bestOfSeveral();
        worthAboveZero();
        oneWidthOfLinesThere();
        hangsOfLinesThere();
        throughAndChanged();
        C.end();
    }

    // "PLACES are 0 to 11, WIDTHS 0 to 2."
    private static void placesAndWidths() {
        for (int width = 0; width < 3; width++) {
            TwoWidths x = new TwoWidths();
            x.line(0, 11, 1 << width, 4, 9, 0);
            x.goods(11, 0, 5);
            C.due("cheapest", x.cheapest(0, 11), 4);
            C.due("cheapest", x.cheapest(11, 0), 4);
            C.due("width", x.way(0, 2), width);
            C.due("through", x.port(0, false) + x.port(11, false), 10);
            C.due("coin of it", x.coin(width, 3), 1);
            C.due("cheapest", x.cheapest(0, 11), 12);
        }
        TwoWidths y = new TwoWidths();
        for (int place = 0; place < 12; place++) {
            C.due("a PLACE and itself", y.cheapest(place, place), 0);
        }
        C.due("nothing refused", y.status(15), 0);
    }

    // "LINES have numbers, 0 on, 20 at most"
    private static void twentyLines() {
        TwoWidths x = new TwoWidths();
        for (int i = 0; i < 20; i++) {
            C.due("its number", x.line(0, 1, 7, 60 - i, 9, i % 6), i);
        }
        C.due("the 21st", x.line(0, 1, 7, 1, 9, 0), -6);
        C.due("how many", x.status(0), 20);
        x.goods(0, 1, 9);
        C.due("the last one is the cheapest", x.way(0, 10), 19);
        C.due("its miles", x.cheapest(0, 1), 41);
        C.due("it hangs on that", x.hangs(), 19);
        C.due("what it has left", x.turn(29), 0);
        C.due("its owner", x.earns(1), 9 * 41);
        x.washed(19, true);
        C.due("the one before it", x.way(0, 10), 18);
        C.due("one WASHED away leaves no room", x.line(0, 1, 7, 1, 9, 0), -6);
    }

    // "a set of WIDTHS (bits 0 to 2; at least one)"
    private static void setsOfWidths() {
        for (int set = 1; set <= 7; set++) {
            TwoWidths x = new TwoWidths();
            C.due("line", x.line(0, 1, set, 5, 9, 0), 0);
            C.due("set", x.lineOf(0, 2), set);
            for (int width = 0; width < 3; width++) {
                // this one costs nothing, the others do
                for (int other = 0; other < 3; other++) {
                    x.coin(other, other == width ? 0 : 9);
                }
                boolean has = (set >> width & 1) != 0;
                C.due("set " + set + " has " + width, x.cheapest(0, 1), has ? 0 : 45);
            }
        }
        C.due("none", new TwoWidths().line(0, 1, 0, 5, 9, 0), -2);
    }

    // "MILES (1 to 60)"
    private static void miles() {
        TwoWidths x = new TwoWidths();
        x.line(0, 1, 1, 1, 9, 0);
        x.line(2, 3, 1, 60, 9, 0);
        C.due("1", x.cheapest(0, 1), 1);
        C.due("60", x.cheapest(2, 3), 60);
        x.coin(0, 9);
        C.due("60 by 9", x.cheapest(2, 3), 540);
    }

    // "BEARS (1 to 999 tons a year)"
    private static void bears() {
        TwoWidths x = new TwoWidths();
        x.line(0, 1, 1, 5, 1, 0);
        x.line(2, 3, 1, 5, 999, 0);
        x.goods(0, 1, 1);
        x.goods(2, 3, 99);
        C.due("all borne", x.turn(1), 0);
        C.due("1 less 1", x.turn(10), 0);
        C.due("999 less 99", x.turn(11), 900);
        TwoWidths y = new TwoWidths();
        y.line(0, 1, 1, 5, 1, 0);
        y.goods(0, 1, 2);
        C.due("one ton too many", y.turn(1), 2);
        C.due("cost", y.turn(0), 2 * 999);
        C.due("nothing is borne", y.turn(10), 1);
        C.due("but FREE", y.free(), 10);
    }

    // "an OWNER (0 to 5)"
    private static void owners() {
        TwoWidths x = new TwoWidths();
        for (int owner = 0; owner < 6; owner++) {
            x.line(owner, owner + 1, 1, 10 + owner, 99, owner);
        }
        x.goods(0, 6, 2);
        for (int owner = 0; owner < 6; owner++) {
            C.due("earns " + owner, x.earns(owner), 2 * (10 + owner));
        }
    }

    // "there or WASHED away (at first there)"
    private static void thereAtFirst() {
        TwoWidths x = Check.of("line 0 1 width 1 miles 5");
        x.line(0, 1, 1, 5, 9, 0);
        x.work(4, 0, 1, 0);
        x.year(0);
        for (int line = 0; line < 3; line++) {
            C.due("there", x.lineOf(line, 6), 0);
            C.due("it was so", x.washed(line, false), 0);
            C.due("washed", x.washed(line, true), 1);
            C.due("washed", x.lineOf(line, 6), 1);
            C.due("it was so", x.washed(line, true), 0);
        }
        C.due("no way", x.cheapest(0, 1), -5);
        x.image();
        x.washed(1, false);
        C.due("there", x.cheapest(0, 1), 5);
        x.back();
        C.due("washed as it was kept", x.lineOf(1, 6), 1);
        C.due("a new one where one was WASHED away is another", x.line(0, 1, 1, 7, 9, 0), 3);
        C.due("and there", x.cheapest(0, 1), 7);
    }

    // "CHANGE of a PLACE: coin a ton (0 to 99; 9 at first)"
    private static void changeAtFirst() {
        TwoWidths x = new TwoWidths();
        for (int place = 0; place < 12; place++) {
            C.due("at first " + place, x.change(place, 99), 9);
        }
        for (int place = 0; place < 12; place++) {
            C.due("what it was " + place, x.change(place, 0), 99);
        }
        for (int place = 0; place < 12; place++) {
            C.due("what it was " + place, x.change(place, place), 0);
        }
        C.due("each its own", x.change(11, 0) * 10 + x.change(7, 0), 117);
    }

    private static void changesAtTheEdges() {
        TwoWidths x = Check.of("line 0 1 width 1 miles 1;line 1 2 width 2 miles 1;goods 0 2 1");
        C.due("9 at first", x.cheapest(0, 2), 11);
        x.change(1, 99);
        C.due("99", x.cheapest(0, 2), 101);
        x.change(1, 0);
        C.due("0", x.cheapest(0, 2), 2);
        x.change(0, 99);
        x.change(2, 99);
        C.due("no change at the beginning and the end", x.cheapest(0, 2), 2);
    }

    // "COIN of a WIDTH: coin a ton and mile (0 to 9; 1 at first)"
    private static void coins() {
        TwoWidths x = Check.of("line 0 1 width 1 miles 60;line 1 2 width 2 miles 60;line 2 3 width 4 miles 60");
        for (int width = 0; width < 3; width++) {
            C.due("1 at first", x.cheapest(width, width + 1), 60);
            C.due("what it was", x.coin(width, 9), 1);
            C.due("9", x.cheapest(width, width + 1), 540);
            C.due("what it was", x.coin(width, 0), 9);
            C.due("0", x.cheapest(width, width + 1), 0);
            C.due("what it was", x.coin(width, 1), 0);
        }
    }

    // "GOODS 0 on, 8 at most"
    private static void eightGoods() {
        TwoWidths x = new TwoWidths();
        x.line(0, 1, 1, 3, 999, 0);
        for (int i = 0; i < 8; i++) {
            C.due("its number", x.goods(i % 2, 1 - i % 2, 10 + i), i);
        }
        C.due("the ninth", x.goods(0, 1, 1), -6);
        C.due("how many", x.status(1), 8);
        C.due("all of them", x.free(), 3 * 108);
        C.due("all of them", x.port(0, false), 108);
        C.due("the last one", x.goodsOf(7, 2), 17);
        C.due("its way", x.way(7, 0), 1);
    }

    // "TONS (1 to 99 a year)"
    private static void tons() {
        TwoWidths x = new TwoWidths();
        x.line(0, 1, 1, 7, 999, 4);
        x.goods(0, 1, 1);
        C.due("1", x.free(), 7);
        x.goods(0, 1, 99);
        C.due("99 more", x.free(), 700);
        C.due("earned", x.earns(4), 700);
        x.washed(0, true);
        C.due("without a WAY", x.free(), 99900);
    }

    // "YEARS (1 to 30; 10 at first)"
    private static void yearsToTotal() {
        TwoWidths x = Check.of("line 0 1 width 1 miles 20;goods 0 1 3;work 4 0 1 7");
        C.due("10 at first", x.total(0), 600);
        C.due("10 at first", x.worth(0), 293);
        C.due("what it was", x.years(1), 10);
        C.due("1", x.total(0), 60);
        C.due("1", x.worth(0), 23);
        C.due("1", x.total(1), 37);
        C.due("1", x.one(1, 0), 60);
        C.due("what it was", x.years(30), 1);
        C.due("30", x.total(0), 1800);
        C.due("30", x.worth(0), 893);
        C.due("30", x.total(1), 907);
        C.due("30", x.one(1, 0), 1800);
        C.due("what it was", x.years(30), 30);
    }

    // "WORKS have numbers, 0 on, 7 at most", "a COIN (0 to 9,999)"
    private static void sevenWorks() {
        TwoWidths x = new TwoWidths();
        for (int i = 0; i < 7; i++) {
            C.due("its number", x.work(3, i, 0, i == 0 ? 0 : 9999), i);
        }
        C.due("the eighth", x.work(3, 0, 0, 0), -6);
        C.due("how many", x.status(2), 7);
        C.due("all", x.total(127), 6 * 9999);
        C.due("the last one", x.total(64), 9999);
        C.due("the last one", x.worth(6), -9999);
        C.due("0 coin", x.worth(0), 0);
        C.due("all but the one for 0 coin", x.never(), 126);
        x.year(6);
        C.due("DONE ones are WORKS still", x.status(2), 7);
        C.due("and leave no room", x.work(3, 0, 0, 0), -6);
    }

    // "1 ALTER, under WORK; 2 THIRD, under ALTER; 3 LIFT, under WORK; 4 NEW, under WORK; 5 DOUBLE, under NEW"
    private static void kindsUnderKinds() {
        int[][] taken = {{0, 1}, {0, 1, 2}, {0, 3}, {0, 4}, {0, 4, 5}};
        for (int kind = 1; kind <= 5; kind++) {
            TwoWidths x = Lands.lines(3);
            x.work(kind, 2, 1, 55);
            x.show(0, 0);
            for (int as = 0; as <= 5; as++) {
                boolean is = false;
                for (int t : taken[kind - 1]) {
                    is |= t == as;
                }
                int says = as == 0 ? 55 : as >= 4 ? 201 : 2;
                C.due("KIND " + kind + " as " + as, x.says(0, as), is ? says : -3);
            }
        }
    }

    // "DONE, ALTER: LINE a has WIDTH b alone; THIRD: .. WIDTH b, too; LIFT: CHANGE of PLACE a becomes b; NEW ..; DOUBLE .."
    private static void whatWorksDo() {
        for (int set = 1; set <= 7; set++) {
            for (int width = 0; width < 3; width++) {
                TwoWidths x = new TwoWidths();
                x.line(0, 1, set, 5, 9, 3);
                x.work(2, 0, width, 0);
                x.work(1, 0, width, 0);
                x.year(0);
                C.due("THIRD", x.lineOf(0, 2), set | 1 << width);
                x.year(1);
                C.due("ALTER", x.lineOf(0, 2), 1 << width);
                C.due("all else as it was", x.lineOf(0, 3) * 100 + x.lineOf(0, 4) * 10 + x.lineOf(0, 5), 593);
            }
        }
        int[] lifts = {0, 1, 9, 98, 99};
        for (int v : lifts) {
            TwoWidths x = new TwoWidths();
            x.work(3, 11, v, 0);
            x.year(0);
            C.due("LIFT", x.change(11, 9), v);
            C.due("there alone", x.change(10, 9), 9);
        }
        for (int kind = 4; kind <= 5; kind++) {
            TwoWidths x = new TwoWidths();
            x.work(kind, 11, 0, 9999);
            C.due("its COIN", x.year(0), 9999);
            int[] told = {11, 0, 7, 10, kind == 4 ? 99 : 198, 0, 0};
            for (int what = 0; what <= 6; what++) {
                C.due("KIND " + kind + " " + what, x.lineOf(0, what), told[what]);
            }
            C.due("a LINE more", x.status(0), 1);
        }
        TwoWidths y = new TwoWidths();
        y.line(0, 1, 1, 50, 9, 0);
        y.goods(0, 1, 1);
        y.work(2, 0, 1, 5);
        y.washed(0, true);
        C.due("a LINE that is WASHED away stays so", y.year(0), 5 + 999);
        C.due("it has the WIDTH, too", y.lineOf(0, 2), 3);
        C.due("WASHED away", y.lineOf(0, 6), 1);
    }

    // "A NEW one that there is no room for does nothing"
    private static void newWithoutRoom() {
        TwoWidths x = Lands.lines(20);
        x.goods(2, 3, 1);
        x.work(4, 2, 3, 5);
        x.work(5, 2, 3, 6);
        C.due("total", x.total(1), 5 + 9990);
        C.due("total", x.total(3), 11 + 9990);
        C.due("worth", x.worth(0), -5);
        C.due("worth", x.worth(1), -6);
        C.due("first", x.first(), -1);
        C.due("never", x.never(), 3);
        C.due("gains", x.gains(0, 0), 0);
        C.due("losers", x.losers(0), 0);
        C.due("edge", x.edge(0), -1);
        x.row(0, 0, 2);
        x.set(0, 1, 1);
        C.due("plan", x.plan(0, 2), 5 + 999 + 6 + 999);
        C.due("year", x.year(0), 5 + 999);
        C.due("DONE for good", x.workOf(0, 4), 1);
        C.due("no LINE more", x.status(0), 20);
        TwoWidths y = Lands.lines(19);
        y.goods(2, 3, 1);
        y.goods(4, 5, 1);
        y.work(4, 2, 3, 0);
        y.work(4, 4, 5, 0);
        C.due("room for the first by numbers", y.total(3), 10 * (10 + 999));
        C.due("both are worth it", y.worth(0) + y.worth(1), 2 * 10 * 989);
        C.due("greedy has the first, then none", y.greedy(), 1);
        C.due("best", y.best(), 1);
        y.row(0, 0, 2);
        y.set(0, 0, 1);
        C.due("in a PLAN the first of it", y.plan(0, 1), 10 + 999);
        C.due("in a PLAN the first of it", y.plan(0, 2), 2 * (10 + 999));
    }

    // "YEARS times FREE with these DONE (by numbers)"
    private static void byNumbers() {
        TwoWidths x = Check.of("line 0 1 width 1 miles 1;line 1 2 width 2 miles 1;goods 0 2 1;work 3 1 0 0;work 3 1 50 0;"
            + "work 3 1 4 0");
        int[] free = {11, 2, 52, 52, 6, 6, 6, 6};
        for (int set = 0; set < 8; set++) {
            C.due("set " + set, x.total(set), 10 * free[set]);
        }
    }

    // "from their PLACE, in any WIDTH at first", "at the beginning the WIDTH itself is a step that costs nothing"
    private static void widthAtFirst() {
        for (int width = 0; width < 3; width++) {
            TwoWidths x = new TwoWidths();
            x.line(0, 1, 1 << width, 5, 9, 0);
            x.change(0, 99);
            x.change(1, 99);
            x.goods(0, 1, 1);
            C.due("no change", x.cheapest(0, 1), 5);
            C.due("at first", x.way(0, 2), width);
            C.due("at the end", x.way(0, 3), width);
            C.due("changes", x.way(0, 1), 0);
            C.due("lines", x.way(0, 0), 1);
        }
    }

    // "CHANGE of a PLACE: .. from any WIDTH to any other one"
    private static void changeFromAnyToAny() {
        for (int a = 0; a < 3; a++) {
            for (int b = 0; b < 3; b++) {
                TwoWidths x = new TwoWidths();
                x.line(0, 1, 1 << a, 5, 9, 0);
                x.line(1, 2, 1 << b, 7, 9, 0);
                x.change(1, 30);
                x.goods(0, 2, 4);
                C.due("cheapest", x.cheapest(0, 2), a == b ? 12 : 42);
                C.due("changes", x.way(0, 1), a == b ? 0 : 1);
                C.due("widths", x.way(0, 2) * 10 + x.way(0, 3), a * 10 + b);
                C.due("changed", x.port(1, true), a == b ? 0 : 4);
            }
        }
    }

    private static void changeAtEachPlace() {
        for (int place = 0; place < 12; place++) {
            TwoWidths x = new TwoWidths();
            int from = (place + 1) % 12;
            int to = (place + 2) % 12;
            x.line(from, place, 4, 5, 99, 0);
            x.line(place, to, 1, 7, 99, 0);
            x.goods(from, to, 2);
            C.due("9 at first", x.cheapest(from, to), 21);
            x.change(place, 40 + place);
            C.due("its own", x.cheapest(to, from), 52 + place);
            C.due("free", x.free(), 2 * (52 + place));
            C.due("changes", x.way(0, 1), 1);
            C.due("changed", x.port(place, true), 2);
            x.work(3, place, 1, 0);
            C.due("lifted", x.total(1), 10 * 2 * 13);
        }
    }

    // "a change to WIDTH w counts as number w, a LINE as 3 and its number"
    private static void rowsInTheirOrder() {
        // of two LINES the one of the lower number, though told in another WIDTH it would be the other
        TwoWidths x = new TwoWidths();
        x.line(0, 1, 2, 5, 9, 1);
        x.line(0, 1, 1, 5, 9, 2);
        x.goods(0, 1, 1);
        C.due("the WIDTH before the LINE", x.way(0, 10), 1);
        // a change is before any LINE, LINE 0 too: 0 -> 1 in WIDTH 0; then 1 -> 2 in both
        TwoWidths y = new TwoWidths();
        y.line(1, 2, 3, 5, 9, 0);
        y.line(0, 1, 1, 5, 9, 0);
        y.line(2, 3, 2, 5, 9, 0);
        y.goods(0, 3, 1);
        C.due("changed before LINE 0", y.port(1, true) * 10 + y.port(2, true), 10);
        // the LINES 9 and 10: by numbers, not by signs
        TwoWidths z = new TwoWidths();
        for (int i = 0; i < 9; i++) {
            z.line(10, 11, 1, 1, 9, 0);
        }
        z.line(0, 2, 1, 5, 9, 0);
        z.line(0, 1, 1, 4, 9, 0);
        z.line(1, 2, 1, 1, 9, 0);
        z.goods(0, 2, 1);
        C.due("9 before 10", z.way(0, 10), 9);
        // a cheaper one is before all others, whatever its row
        z.line(0, 2, 4, 4, 9, 0);
        C.due("the cheapest", z.way(0, 10), 12);
        C.due("its WIDTH", z.way(0, 2), 2);
    }

    // "Where COIN or CHANGE is 0, only ways without a PLACE and WIDTH met twice are ways"
    private static void noNodeTwice() {
        // all costs nothing: the row first of all goes through changes of widths before each LINE
        TwoWidths x = new TwoWidths();
        for (int width = 0; width < 3; width++) {
            x.coin(width, 0);
        }
        x.change(0, 0);
        x.change(1, 0);
        x.line(0, 1, 7, 5, 9, 0);
        x.line(1, 2, 7, 5, 9, 0);
        x.goods(0, 2, 1);
        // 0, to 1, to 2, LINE 0 (at 1 in 2), to 0, to 1, LINE 1
        C.due("LINES", x.way(0, 0), 2);
        C.due("changes", x.way(0, 1), 4);
        C.due("at first", x.way(0, 2), 0);
        C.due("at the end", x.way(0, 3), 1);
        C.due("changed at 0", x.port(0, true), 2);
        C.due("changed at 1", x.port(1, true), 2);
        C.due("none at the end", x.port(2, true), 0);
        // a LINE there and back would meet the PLACE in its WIDTH again
        TwoWidths y = new TwoWidths();
        y.coin(0, 0);
        y.line(0, 1, 1, 5, 9, 0);
        y.line(0, 2, 1, 5, 9, 0);
        y.goods(0, 2, 1);
        C.due("not by the blind LINE", y.way(0, 0) * 10 + y.way(0, 10), 11);
        // there in WIDTH 0 and back in WIDTH 1 does not
        y.coin(1, 0);
        y.change(1, 0);
        y.line(0, 1, 2, 5, 9, 0);
        y.line(0, 2, 2, 5, 9, 0);
        C.due("there and back in another WIDTH", y.way(0, 0), 3);
        C.due("its LINES", y.way(0, 10) * 100 + y.way(0, 11) * 10 + y.way(0, 12), 23);
        C.due("the same PLACE twice is THROUGH once", y.port(0, false), 1);
    }

    // from PLACES other than 0, over changes to each WIDTH
    private static void costlessSteps() {
        TwoWidths x = Check.of("change 5 0;line 5 6 width 4 miles 5;goods 5 6 1");
        C.due("to 1 and to 2 at the beginning", x.way(0, 1), 2);
        C.due("from 0", x.way(0, 2), 0);
        TwoWidths y = Check.of("coin 0 0;coin 1 0;change 7 0;line 5 7 width 2 miles 5;line 7 9 width 1 miles 5;goods 5 9 1");
        C.due("LINES", y.way(0, 0), 2);
        C.due("to 0", y.way(0, 1) * 100 + y.way(0, 2) * 10 + y.way(0, 3), 110);
        TwoWidths z = Check.of("coin 0 0;coin 2 0;change 7 0;line 5 7 width 1 miles 5;line 7 9 width 4 miles 5;goods 5 9 1");
        C.due("LINES", z.way(0, 0), 2);
        C.due("to 1 and to 2", z.way(0, 1) * 100 + z.way(0, 2) * 10 + z.way(0, 3), 202);
    }

    // a round that costs nothing is walked as far as the end can still be come to without a PLACE and WIDTH met twice
    private static void costlessRounds() {
        TwoWidths x = Check.of("coin 1 0;line 4 5 width 2 miles 9;line 5 6 width 2 miles 9;line 6 4 width 2 miles 9;"
            + "line 6 7 width 2 miles 9;line 4 7 width 2 miles 9;goods 4 7 1");
        C.due("4 5 6 7", x.way(0, 0) * 1000 + x.way(0, 10) * 100 + x.way(0, 11) * 10 + x.way(0, 12), 3013);
        TwoWidths y = Check.of("coin 1 0;line 4 5 width 2 miles 9;line 5 6 width 2 miles 9;line 6 4 width 2 miles 9;"
            + "line 4 7 width 2 miles 9;goods 4 7 1");
        C.due("no end from the round: 4 7", y.way(0, 0) * 10 + y.way(0, 10), 13);
        TwoWidths z = Check.of("coin 1 0;line 4 5 width 2 miles 9;line 5 6 width 2 miles 9;line 6 4 width 2 miles 9;"
            + "line 4 7 width 2 miles 9;goods 5 7 1;goods 6 7 1");
        C.due("5 4 7", z.way(0, 0) * 100 + z.way(0, 10) * 10 + z.way(0, 11), 203);
        // a LINE just WASHED away makes a blind end of what led on before
        TwoWidths v = Check.of("coin 1 0;line 4 5 width 2 miles 9;line 4 7 width 2 miles 9;line 5 7 width 2 miles 9;goods 4 7 1");
        C.due("4 5 7", v.way(0, 0) * 100 + v.way(0, 10) * 10 + v.way(0, 11), 202);
        v.washed(2, true);
        C.due("4 7", v.way(0, 0) * 10 + v.way(0, 10), 11);
        C.due("6 5 4 7", z.way(1, 0) * 1000 + z.way(1, 10) * 100 + z.way(1, 11) * 10 + z.way(1, 12), 3103);
    }

    // All PLACES in all WIDTHS on one WAY: 36 steps at most.
    private static void aLongWay() {
        TwoWidths x = new TwoWidths();
        for (int width = 0; width < 3; width++) {
            x.coin(width, 0);
        }
        for (int place = 0; place < 12; place++) {
            x.change(place, 0);
        }
        for (int i = 0; i < 11; i++) {
            x.line(i, i + 1, 7, 60, 999, i % 6);
        }
        x.goods(0, 11, 1);
        x.goods(11, 0, 1);
        C.due("LINES", x.way(0, 0), 11);
        C.due("changes: two at each PLACE but the last", x.way(0, 1), 22);
        C.due("the last LINE", x.way(0, 20), 10);
        C.due("behind it", x.way(0, 21), -2);
        C.due("LINES back", x.way(1, 0), 11);
        C.due("CHEAPEST", x.cheapest(0, 11), 0);
        C.due("free", x.free(), 0);
        for (int i = 0; i < 11; i++) {
            C.due("left", x.turn(10 + i), 997);
        }
        // dear: 11 times 540
        for (int width = 0; width < 3; width++) {
            x.coin(width, 9);
        }
        C.due("CHEAPEST", x.cheapest(0, 11), 11 * 540);
        C.due("free", x.free(), 2 * 11 * 540);
    }

    // "GOODS that have no WAY: TONS times 999"
    private static void withoutAWay() {
        TwoWidths x = new TwoWidths();
        x.goods(0, 1, 1);
        C.due("1 ton", x.free(), 999);
        C.due("in turn", x.turn(0), 999);
        C.due("tons", x.turn(1), 1);
        x.goods(1, 0, 99);
        C.due("100 tons", x.free(), 99900);
        C.due("in turn", x.turn(0), 99900);
        C.due("tons", x.turn(1), 100);
        C.due("earns", x.earns(0), 0);
        C.due("through", x.port(0, false), 0);
        C.due("changed", x.port(0, true), 0);
        x.line(0, 2, 1, 60, 99, 0);
        x.line(2, 1, 1, 60, 99, 0);
        x.coin(0, 9);
        C.due("a WAY dearer than 999 is one", x.free(), 100 * 1080);
        C.due("in turn, too", x.turn(0), 99 * 999 + 1080);
    }

    // "each as a whole by CHEAPEST of LINES that still bear so much"
    private static void asAWhole() {
        TwoWidths x = Check.of("line 0 1 width 1 miles 5 bears 50;line 0 1 width 1 miles 8 bears 20;"
            + "goods 0 1 30;goods 0 1 20;goods 0 1 20;goods 0 1 1");
        // 30 and 20 by LINE 0, which has nothing left then; 20 by LINE 1; 1 by none
        C.due("left 0", x.turn(10), 0);
        C.due("left 1", x.turn(11), 0);
        C.due("without", x.turn(1), 1);
        C.due("cost", x.turn(0), 50 * 5 + 20 * 8 + 999);
        TwoWidths y = Check.of("line 0 1 width 1 miles 5 bears 50;line 0 1 width 1 miles 8 bears 20;"
            + "goods 0 1 30;goods 0 1 21;goods 0 1 20");
        // 21 fit neither the 20 left nor LINE 1; 20 fit LINE 0 just so
        C.due("left 0", y.turn(10), 0);
        C.due("left 1", y.turn(11), 20);
        C.due("without", y.turn(1), 21);
        C.due("cost", y.turn(0), 50 * 5 + 21 * 999);
        C.due("whatever LINES bear", y.free(), 71 * 5);
        C.due("each time anew", y.turn(10), 0);
    }

    // "each LINE of THE WAY bears TONS less then, for each time it is on it; 0 at least"
    private static void zeroAtLeast() {
        int[] bears = {40, 79, 80, 81};
        int[] left = {0, 0, 0, 1};
        for (int i = 0; i < 4; i++) {
            TwoWidths x = Check.of("coin 0 0;coin 1 0;change 1 0;line 0 1 width 3 miles 9 bears " + bears[i]
                + ";line 0 2 width 2 miles 9;goods 0 2 40");
            C.due("twice on it", x.way(0, 0), 3);
            C.due("left of " + bears[i], x.turn(10), left[i]);
            C.due("left of the other", x.turn(11), 959);
            C.due("borne", x.turn(1), 0);
        }
        TwoWidths y = Check.of("coin 0 0;coin 1 0;change 1 0;line 0 1 width 3 miles 9 bears 39;"
            + "line 0 2 width 2 miles 9;goods 0 2 40");
        C.due("not on it", y.turn(10), 39);
        C.due("borne", y.turn(1), 0);
    }

    // "of all sets that of the least TOTAL, of several the least as bits"
    private static void bestOfSeveral() {
        TwoWidths x = Check.of("line 0 1 width 1 miles 20;goods 0 1 1");
        for (int i = 0; i < 7; i++) {
            x.work(4, 0, 1, 100);
        }
        C.due("as much as none", x.best(), 0);
        C.due("gap", x.gap(), 0);
        x.years(11);
        C.due("of equal ones the least as bits", x.best(), 1);
        C.due("greedy", x.greedy(), 1);
        x.year(0);
        C.due("nothing more", x.best(), 0);
        TwoWidths y = Check.of("work 3 0 0 0;work 3 0 0 0");
        C.due("those for 0 coin that help nothing", y.best(), 0);
    }

    // "the WORK of the greatest WORTH, if that is above 0, of several the first"
    private static void worthAboveZero() {
        int[] coins = {99, 100, 101};
        int[] worth = {1, 0, -1};
        for (int i = 0; i < 3; i++) {
            TwoWidths x = Check.of("line 0 1 width 1 miles 20;goods 0 1 1;work 4 0 1 " + coins[i]);
            C.due("worth", x.worth(0), worth[i]);
            C.due("first", x.first(), worth[i] > 0 ? 0 : -1);
            C.due("greedy", x.greedy(), worth[i] > 0 ? 1 : 0);
            C.due("best", x.best(), worth[i] > 0 ? 1 : 0);
            C.due("never", x.never(), worth[i] < 0 ? 1 : 0);
            C.due("edge", x.edge(0), worth[i] > 0 ? 10 : 11);
        }
        TwoWidths y = Check.of("line 0 1 width 1 miles 20;goods 0 1 1;work 4 0 1 50;work 4 0 1 40;work 5 0 1 40");
        C.due("the first of the greatest", y.first(), 1);
        y.year(1);
        C.due("not the DONE one, and the others are worth nothing now", y.first(), -1);
    }

    // "each LINE there has WIDTH w alone: told coin a mile for each LINE that has it not"
    private static void oneWidthOfLinesThere() {
        TwoWidths x = Check.of("line 0 1 width 1 miles 10;line 1 2 width 6 miles 20;line 2 3 width 7 miles 40;goods 0 3 1");
        C.due("width 0", x.one(0, 99), 20 * 99 + 700);
        C.due("width 1", x.one(1, 99), 10 * 99 + 700);
        C.due("width 2", x.one(2, 99), 10 * 99 + 700);
        C.due("by 0 coin a mile", x.one(0, 0), 700);
        C.due("which: of several the first", x.which(99), 1);
        C.due("which: all alike", x.which(0), 0);
        x.washed(0, true);
        C.due("the one WASHED away costs nothing and leads nowhere", x.one(1, 99), 9990);
        C.due("that has it not", x.one(0, 1), 20 + 9990);
        C.due("LINES are as they were", x.lineOf(0, 2) * 100 + x.lineOf(1, 2) * 10 + x.lineOf(2, 2), 167);
    }

    // "the LINE there without which FREE is greatest, of several the first"; "STUCK: no LINES there"
    private static void hangsOfLinesThere() {
        TwoWidths x = new TwoWidths();
        C.due("no LINES", x.hangs(), -5);
        for (int i = 0; i < 20; i++) {
            x.line(0, 1, 1, 5, 9, 0);
        }
        C.due("all alike: the first", x.hangs(), 0);
        x.goods(0, 1, 1);
        C.due("all alike: the first", x.hangs(), 0);
        for (int i = 0; i < 19; i++) {
            x.washed(i, true);
            C.due("the first there", x.hangs(), i + 1);
        }
        x.washed(19, true);
        C.due("no LINES there", x.hangs(), -5);
        C.due("refused STUCK", x.status(15), 2);
    }

    // "TONS of all GOODS whose WAY comes to it, begins or ends there"; "TONS times changes there"
    private static void throughAndChanged() {
        TwoWidths x = Check.of("line 0 1 width 1 miles 5;line 1 2 width 2 miles 5;goods 0 2 3;goods 1 0 40;goods 2 1 50");
        C.due("begins or ends", x.port(0, false), 43);
        C.due("comes to it, begins and ends", x.port(1, false), 93);
        C.due("ends and begins", x.port(2, false), 53);
        C.due("none", x.port(3, false), 0);
        C.due("changed", x.port(1, true), 3);
        C.due("none", x.port(0, true), 0);
        C.due("none", x.port(11, true), 0);
    }
}
