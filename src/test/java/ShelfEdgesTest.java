/** The sentences about SHELVES, ROWS and PLANS that name an edge, each with a test of its own. */
public final class ShelfEdgesTest {
    private static final Check C = new Check("ShelfEdgesTest");

    public static void main(String[] args) {
        eightShelves();
        nothingAtFirst();
        elementsAtFirst();
        lowestBits();
        booleans();
        copiesToTheBrim();
        copiesOntoThemselves();
        copiesOfNone();
        copiesOfEachSort();
        elementsThatAreNone();
        worksOnShelves();
        whatWorksSay();
        plansOfEachSort();
        plansOfOthers();
        plansOfSomeYears();
        wrongPlans();
        plansOfDoneOnes();
        C.end();
    }

    // "SHELVES 0 to 7"
    private static void eightShelves() {
        TwoWidths x = new TwoWidths();
        x.work(3, 0, 0, 0);
        for (int s = 0; s < 8; s++) {
            C.due("in use", x.status(8), s);
            C.due("row", x.row(s, s % 5, s), 1);
            C.due("holds", x.holds(s), s % 5);
        }
        C.due("in use", x.status(8), 8);
        for (int s = 0; s < 8; s++) {
            C.due("a WORK instead", x.show(s, 0), 1);
            C.due("in use", x.status(8), 8);
        }
        for (int s = 0; s < 8; s++) {
            C.due("NOTHING again", x.show(s, -1), 1);
            C.due("holds", x.holds(s), -1);
            C.due("in use", x.status(8), 7 - s);
        }
        C.due("nothing refused", x.status(12), 0);
    }

    // "hold NOTHING (at first)"
    private static void nothingAtFirst() {
        TwoWidths x = new TwoWidths();
        for (int s = 0; s < 8; s++) {
            C.due("holds", x.holds(s), -1);
            C.due("element", x.element(s, 0), 0);
            C.due("set", x.set(s, 0, 5), -4);
            C.due("copy", x.copy(s, s, 0, 0, 0), -4);
            C.due("says", x.says(s, 0), -4);
            C.due("plan", x.plan(s, 0), -4);
            C.due("judge", x.judge(s, 0), -4);
        }
        C.due("in use", x.status(8), 0);
        C.due("refused NOTHING", x.status(14), 40);
    }

    // "0 to 40 elements (0, or not so, at first)"
    private static void elementsAtFirst() {
        for (int sort = 0; sort <= 4; sort++) {
            TwoWidths x = new TwoWidths();
            x.row(2, sort, 40);
            for (int i = 0; i < 40; i++) {
                C.due("at first", x.element(2, i), 0);
                C.due("set", x.set(2, i, 1), 1);
            }
            C.due("the last", x.element(2, 39), 1);
            C.due("behind it", x.set(2, 40, 1), -2);
            C.due("a new ROW", x.row(2, sort, 40), 1);
            for (int i = 0; i < 40; i++) {
                C.due("at first again", x.element(2, i), 0);
            }
            x.set(2, 0, 1);
            x.row(2, sort, 0);
            C.due("of no elements", x.element(2, 0), 0);
            C.due("of no elements", x.set(2, 0, 1), -2);
            C.due("it is a ROW", x.holds(2), sort);
            x.row(2, sort, 1);
            C.due("of one element", x.set(2, 0, 1), 1);
            C.due("of one element", x.set(2, 1, 1), -2);
        }
    }

    // "what is put in keeps its lowest bits": 8, 16, 32, 64 of them
    private static void lowestBits() {
        for (int sort = 0; sort <= 3; sort++) {
            int bits = 8 << sort;
            long top = 1L << bits - 1;
            TwoWidths x = new TwoWidths();
            x.row(0, sort, 12);
            long[] put = {top - 1, top, top + 1, -top, -top - 1, -top + 1, -1, 2 * top - 1, 2 * top, 2 * top + 5, Long.MIN_VALUE,
                Long.MAX_VALUE};
            long[] due = {top - 1, -top, -top + 1, -top, top - 1, -top + 1, -1, -1, 0, 5, bits == 64 ? Long.MIN_VALUE : 0,
                bits == 64 ? Long.MAX_VALUE : -1};
            for (int i = 0; i < put.length; i++) {
                C.due("set", x.set(0, i, put[i]), 1);
                C.due(put[i] + " in " + bits + " bits", x.element(0, i), due[i]);
            }
        }
    }

    // "of booleans: whether it is not 0", "told they are numbers (1, 0)"
    private static void booleans() {
        TwoWidths x = new TwoWidths();
        x.row(0, 4, 1);
        long[] so = {1, 2, -1, 256, 65536, 1L << 32, 1L << 63, Long.MAX_VALUE};
        for (long v : so) {
            x.set(0, 0, 0);
            C.due("0", x.element(0, 0), 0);
            C.due("set", x.set(0, 0, v), 1);
            C.due("so: " + v, x.element(0, 0), 1);
        }
    }

    // "n elements .. from place i on come to places j on of that in q (as they were): n"
    private static void copiesToTheBrim() {
        TwoWidths x = Lands.rows();
        C.due("all 40", x.copy(1, 2, 0, 0, 40), 40);
        C.due("the first", x.element(2, 0), 100);
        C.due("the last", x.element(2, 39), 139);
        C.due("they stay in p", x.element(1, 39), 139);
        C.due("the last one to the first place", x.copy(3, 4, 39, 0, 1), 1);
        C.due("there", x.element(4, 0), 339);
        C.due("beside it", x.element(4, 1), 401);
        C.due("the first one to the last place", x.copy(3, 4, 0, 39, 1), 1);
        C.due("there", x.element(4, 39), 300);
        C.due("beside it", x.element(4, 38), 438);
    }

    private static void copiesOntoThemselves() {
        TwoWidths x = Lands.rows();
        C.due("up by 1", x.copy(0, 0, 0, 1, 39), 39);
        for (int i = 0; i < 40; i++) {
            C.due("as they were", x.element(0, i), Math.max(0, i - 1));
        }
        C.due("down by 1", x.copy(1, 1, 1, 0, 39), 39);
        for (int i = 0; i < 40; i++) {
            C.due("as they were", x.element(1, i), 100 + Math.min(39, i + 1));
        }
        TwoWidths y = Lands.rows();
        C.due("to the same place", y.copy(2, 2, 0, 0, 40), 40);
        C.due("as it was", y.element(2, 17), 217);
        C.due("far up", y.copy(3, 3, 0, 39, 1), 1);
        C.due("as it was", y.element(3, 39), 300);
        C.due("far down", y.copy(4, 4, 39, 0, 1), 1);
        C.due("as it was", y.element(4, 0), 439);
    }

    private static void copiesOfNone() {
        TwoWidths x = new TwoWidths();
        x.row(0, 2, 3);
        x.row(1, 2, 0);
        x.set(0, 0, 7);
        C.due("none of three to an empty one", x.copy(0, 1, 0, 0, 0), 0);
        C.due("none of an empty one", x.copy(1, 0, 0, 0, 0), 0);
        C.due("none behind the last", x.copy(0, 0, 3, 3, 0), 0);
        C.due("as it was", x.element(0, 0), 7);
        C.due("one to an empty one", x.copy(0, 1, 0, 0, 1), -2);
        C.due("one of an empty one", x.copy(1, 0, 0, 0, 1), -2);
    }

    // "OTHER (also ROWS of two SORTS, if both hold something)"
    private static void copiesOfEachSort() {
        TwoWidths x = new TwoWidths();
        for (int sort = 0; sort <= 4; sort++) {
            x.row(sort, sort, 2);
            x.set(sort, 0, -1);
        }
        for (int p = 0; p <= 4; p++) {
            for (int q = 0; q <= 4; q++) {
                C.due("copy " + p + " to " + q, x.copy(p, q, 0, 1, 1), p == q ? 1 : -3);
            }
            C.due("came", x.element(p, 1), p == 4 ? 1 : -1);
            C.due("to NOTHING", x.copy(p, 7, 0, 0, 1), -4);
            C.due("of NOTHING", x.copy(7, p, 0, 0, 1), -4);
        }
        C.due("refused OTHER", x.status(13), 20);
        C.due("refused NOTHING", x.status(14), 10);
    }

    // "Element i of the ROW; 0: none, no ROW (nothing is refused)."
    private static void elementsThatAreNone() {
        TwoWidths x = Lands.rows();
        C.due("the first", x.element(7, 0), 700);
        C.due("the last", x.element(7, 39), 739);
        C.due("below", x.element(7, -1), 0);
        C.due("above", x.element(7, 40), 0);
        C.due("below the SHELVES", x.element(-1, 1), 0);
        C.due("above the SHELVES", x.element(8, 1), 0);
        x.show(7, -1);
        C.due("NOTHING", x.element(7, 1), 0);
        x.work(3, 0, 0, 0);
        x.show(6, 0);
        C.due("a WORK", x.element(6, 1), 0);
        x.row(5, 3, 2);
        C.due("no longer", x.element(5, 2), 0);
        for (int i = 12; i <= 16; i++) {
            C.due("nothing is refused", x.status(i), 0);
        }
    }

    // "10 and the number of a WORK"
    private static void worksOnShelves() {
        TwoWidths x = Lands.sevenWorks();
        for (int work = 0; work < 7; work++) {
            C.due("show", x.show(work, work), 1);
            C.due("holds", x.holds(work), 10 + work);
        }
        C.due("one WORK on two SHELVES", x.show(7, 6), 1);
        C.due("holds", x.holds(7), 16);
        C.due("in use", x.status(8), 8);
        x.year(6);
        C.due("DONE ones, too", x.holds(7), 16);
        C.due("and it says the same", x.says(7, 1), 0);
        x.row(7, 0, 1);
        C.due("a ROW instead", x.holds(7), 0);
        C.due("no WORK", x.says(7, 0), -3);
    }

    // "NEW, DOUBLE 100 times a and b"
    private static void whatWorksSay() {
        TwoWidths x = Lands.lines(20);
        int[][] works = {{1, 19, 2, 0}, {2, 0, 0, 9999}, {3, 11, 99, 1}, {4, 0, 11, 2}, {5, 11, 0, 3}, {4, 11, 10, 4}};
        int[] says = {19, 0, 11, 11, 1100, 1110};
        for (int w = 0; w < works.length; w++) {
            x.work(works[w][0], works[w][1], works[w][2], works[w][3]);
            x.show(0, w);
            C.due("its COIN", x.says(0, 0), works[w][3]);
            C.due("as its own KIND", x.says(0, works[w][0]), says[w]);
        }
    }

    // 33 a year at first; LIFTS of PLACE 1: WORK 0 to 0 (24 a year), 1 to 5 (29 a year), for 100 and 200 coin.
    private static TwoWidths planned() {
        return Check.of("line 0 1 width 1 miles 12;line 1 2 width 2 miles 12;goods 0 2 1;work 3 1 0 100;work 3 1 5 200");
    }

    // "a ROW of WORKS", of each SORT by the numbers that its elements tell
    private static void plansOfEachSort() {
        for (int sort = 0; sort <= 4; sort++) {
            TwoWidths x = planned();
            x.row(0, sort, 2);
            x.set(0, 0, 1);
            C.due("SORT " + sort, x.plan(0, 2), 200 + 29 + 100 + 24);
            C.due("SORT " + sort, x.judge(0, 2), -1);
            x.set(0, 1, 1);
            C.due("SORT " + sort, x.plan(0, 2), -5);
            C.due("SORT " + sort, x.judge(0, 2), 1);
        }
        TwoWidths y = planned();
        y.row(0, 2, 1);
        y.set(0, 0, (1L << 32) + 1);
        C.due("an int keeps its lowest bits", y.plan(0, 1), 229);
        y.row(0, 3, 1);
        y.set(0, 0, (1L << 32) + 1);
        C.due("a long is what it is", y.plan(0, 1), 33);
        y.set(0, 0, Long.MAX_VALUE);
        C.due("none", y.plan(0, 1), 33);
        y.set(0, 0, Long.MIN_VALUE);
        C.due("none", y.plan(0, 1), 33);
        y.row(0, 4, 1);
        y.set(0, 0, 5);
        C.due("so is WORK 1", y.plan(0, 1), 229);
    }

    // "one a YEAR (others: none that YEAR)"
    private static void plansOfOthers() {
        long[] others = {-1, 2, 7, 10, -128, 127, -2};
        for (long v : others) {
            TwoWidths x = planned();
            x.row(0, 0, 3);
            x.set(0, 0, v);
            x.set(0, 1, v);
            x.set(0, 2, 0);
            C.due(v + " is none", x.plan(0, 1), 33);
            C.due(v + " twice is not WRONG", x.judge(0, 3), -1);
            C.due("then a WORK", x.plan(0, 3), 33 + 33 + 100 + 24);
        }
        TwoWidths y = new TwoWidths();
        y.row(0, 0, 40);
        C.due("without WORKS nothing is WRONG", y.judge(0, 30), -1);
        C.due("and all is none", y.plan(0, 30), 0);
    }

    // "the first n elements (0 to 30) of the ROW"
    private static void plansOfSomeYears() {
        TwoWidths x = planned();
        x.row(0, 0, 40);
        for (int i = 0; i < 40; i++) {
            x.set(0, i, i == 29 ? 1 : i == 28 || i == 30 ? 0 : -1);
        }
        C.due("0", x.plan(0, 0), 0);
        C.due("1", x.plan(0, 1), 33);
        C.due("28", x.plan(0, 28), 28 * 33);
        C.due("29", x.plan(0, 29), 28 * 33 + 124);
        C.due("30", x.plan(0, 30), 28 * 33 + 124 + 229);
        C.due("31", x.plan(0, 31), -2);
        C.due("30", x.judge(0, 30), -1);
        C.due("31", x.judge(0, 31), -2);
        x.row(1, 0, 30);
        C.due("as many as there are", x.judge(1, 30), 1);
        x.row(1, 0, 29);
        C.due("one more than there are", x.judge(1, 30), -2);
        C.due("one more than there are", x.plan(1, 30), -2);
        C.due("as many as there are", x.judge(1, 29), 1);
        x.row(2, 0, 0);
        C.due("none of none", x.plan(2, 0), 0);
        C.due("none of none", x.judge(2, 0), -1);
        C.due("one of none", x.plan(2, 1), -2);
    }

    // "It is WRONG at the first element that tells a WORK a second time."
    private static void wrongPlans() {
        TwoWidths x = planned();
        x.row(0, 0, 30);
        for (int i = 0; i < 30; i++) {
            x.set(0, i, -1);
        }
        x.set(0, 0, 1);
        x.set(0, 29, 1);
        C.due("the first and the last", x.judge(0, 30), 29);
        C.due("STUCK", x.plan(0, 30), -5);
        C.due("not so without the last", x.judge(0, 29), -1);
        C.due("its cost", x.plan(0, 29), 200 + 29 * 29);
        x.set(0, 1, 0);
        x.set(0, 28, 0);
        C.due("the first that is told again, not what was told first", x.judge(0, 30), 28);
        x.set(0, 2, 0);
        C.due("the first one", x.judge(0, 30), 2);
        x.set(0, 1, 1);
        C.due("the first one", x.judge(0, 30), 1);
        C.due("as soon as it is there", x.judge(0, 2), 1);
        C.due("not before", x.judge(0, 1), -1);
        C.due("refused STUCK", x.status(15), 1);
    }

    // "(One that is DONE for good already is as none.)"
    private static void plansOfDoneOnes() {
        TwoWidths x = planned();
        x.year(0);
        x.row(0, 0, 3);
        x.set(0, 1, -1);
        x.set(0, 2, 1);
        C.due("neither COIN nor DONE again", x.plan(0, 3), 24 + 24 + 200 + 29);
        x.change(1, 9);
        C.due("not DONE again", x.plan(0, 1), 33);
        C.due("not WRONG", x.judge(0, 3), -1);
        x.year(1);
        C.due("both are as none", x.plan(0, 3), 3 * 29);
    }
}
