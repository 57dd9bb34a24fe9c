/** Promises 9 to 15 and 19 to 21. */
public final class LandTest {
    private static final int MIN = Integer.MIN_VALUE;
    private static final int MAX = Integer.MAX_VALUE;
    private static final Check C = new Check("LandTest");

    public static void main(String[] args) {
        lines();
        goods();
        works();
        prices();
        washed();
        C.end();
    }

    private static void lines() {
        TwoWidths x = new TwoWidths();
        C.due("line", x.line(11, 0, 7, 60, 999, 5), 0);
        C.due("line", x.line(0, 11, 1, 1, 1, 0), 1);
        int[] first = {11, 0, 7, 60, 999, 5, 0};
        int[] second = {0, 11, 1, 1, 1, 0, 0};
        for (int what = 0; what <= 6; what++) {
            C.due("lineOf 0 " + what, x.lineOf(0, what), first[what]);
            C.due("lineOf 1 " + what, x.lineOf(1, what), second[what]);
        }
        int[][] bad = {{-1, 1, 1, 1, 1, 0}, {12, 1, 1, 1, 1, 0}, {0, -1, 1, 1, 1, 0}, {0, 12, 1, 1, 1, 0},
            {3, 3, 1, 1, 1, 0}, {0, 1, 0, 1, 1, 0}, {0, 1, 8, 1, 1, 0}, {0, 1, -1, 1, 1, 0}, {0, 1, 1, 0, 1, 0},
            {0, 1, 1, 61, 1, 0}, {0, 1, 1, 1, 0, 0}, {0, 1, 1, 1, 1000, 0}, {0, 1, 1, 1, 1, -1}, {0, 1, 1, 1, 1, 6},
            {MIN, MAX, 1, 1, 1, 0}, {0, 1, MAX, 1, 1, 0}, {0, 1, 1, MAX, MIN, 0}, {0, 1, 1, 1, 1, MIN}};
        for (int[] b : bad) {
            C.due("bad line", x.line(b[0], b[1], b[2], b[3], b[4], b[5]), -2);
        }
        for (int i = 2; i < 20; i++) {
            C.due("line", x.line(0, 1, 1, 1, 1, 0), i);
        }
        C.due("full", x.line(0, 1, 1, 1, 1, 0), -6);
        C.due("bad before full", x.line(0, 0, 1, 1, 1, 0), -2);
        C.due("lines", x.status(0), 20);
        C.due("refused full", x.status(16), 1);
        int[][] none = {{20, 0}, {-1, 0}, {0, 7}, {0, -1}, {MAX, 0}, {MIN, 0}, {0, MAX}, {0, MIN}};
        for (int[] b : none) {
            C.due("bad lineOf", x.lineOf(b[0], b[1]), -2);
        }
        C.due("refused bad", x.status(12), bad.length + 1 + none.length);
    }

    private static void goods() {
        TwoWidths x = new TwoWidths();
        C.due("goods", x.goods(0, 11, 99), 0);
        C.due("goods", x.goods(11, 0, 1), 1);
        C.due("goodsOf", x.goodsOf(0, 0), 0);
        C.due("goodsOf", x.goodsOf(0, 1), 11);
        C.due("goodsOf", x.goodsOf(0, 2), 99);
        C.due("goodsOf", x.goodsOf(1, 2), 1);
        int[][] bad = {{-1, 1, 1}, {12, 1, 1}, {1, -1, 1}, {1, 12, 1}, {1, 1, 1}, {0, 1, 0}, {0, 1, 100}, {0, 1, MIN},
            {MAX, 1, 1}};
        for (int[] b : bad) {
            C.due("bad goods", x.goods(b[0], b[1], b[2]), -2);
        }
        for (int i = 2; i < 8; i++) {
            C.due("goods", x.goods(1, 2, 3), i);
        }
        C.due("full", x.goods(1, 2, 3), -6);
        C.due("bad before full", x.goods(1, 2, 100), -2);
        int[][] none = {{8, 0}, {-1, 0}, {0, 3}, {0, -1}, {MIN, MAX}};
        for (int[] b : none) {
            C.due("bad goodsOf", x.goodsOf(b[0], b[1]), -2);
        }
        C.due("goods", x.status(1), 8);
        C.due("refused bad", x.status(12), bad.length + 1 + none.length);
        C.due("refused full", x.status(16), 1);
    }

    private static void works() {
        TwoWidths x = new TwoWidths();
        C.due("alter: no line yet", x.work(1, 0, 0, 0), -2);
        C.due("third: no line yet", x.work(2, 0, 0, 0), -2);
        x.line(0, 1, 1, 1, 1, 0);
        C.due("alter", x.work(1, 0, 2, 9999), 0);
        C.due("third", x.work(2, 0, 0, 0), 1);
        C.due("lift", x.work(3, 11, 99, 1), 2);
        C.due("new", x.work(4, 11, 0, 2), 3);
        C.due("double", x.work(5, 0, 11, 3), 4);
        int[][] due = {{1, 0, 2, 9999, 0}, {2, 0, 0, 0, 0}, {3, 11, 99, 1, 0}, {4, 11, 0, 2, 0}, {5, 0, 11, 3, 0}};
        for (int w = 0; w < 5; w++) {
            for (int what = 0; what <= 4; what++) {
                C.due("workOf", x.workOf(w, what), due[w][what]);
            }
        }
        int[][] bad = {{0, 0, 1, 1}, {-1, 0, 1, 1}, {6, 0, 1, 1}, {MIN, 0, 1, 1}, {MAX, 0, 1, 1},
            {1, 1, 0, 0}, {1, -1, 0, 0}, {1, 0, 3, 0}, {1, 0, -1, 0}, {2, 1, 0, 0}, {2, 0, 3, 0},
            {3, 12, 0, 0}, {3, -1, 0, 0}, {3, 0, 100, 0}, {3, 0, -1, 0},
            {4, 12, 0, 0}, {4, 0, 12, 0}, {4, -1, 0, 0}, {4, 0, -1, 0}, {4, 5, 5, 0}, {5, 5, 5, 0}, {5, 0, 12, 0},
            {3, 0, 0, -1}, {3, 0, 0, 10000}, {4, 0, 1, MAX}};
        for (int[] b : bad) {
            C.due("bad work " + b[0] + " " + b[1] + " " + b[2], x.work(b[0], b[1], b[2], b[3]), -2);
        }
        x.washed(0, true);
        C.due("alter of a washed line", x.work(1, 0, 0, 0), 5);
        C.due("lift to the place of the same number", x.work(3, 5, 5, 0), 6);
        C.due("full", x.work(3, 0, 0, 0), -6);
        C.due("bad before full", x.work(3, 0, 0, -1), -2);
        C.due("refused bad", x.status(12), 3 + bad.length);
        C.due("refused full", x.status(16), 1);
        C.due("works", x.status(2), 7);
        int[][] none = {{7, 0}, {-1, 0}, {0, 5}, {0, -1}, {MAX, MIN}};
        for (int[] b : none) {
            C.due("bad workOf", x.workOf(b[0], b[1]), -2);
        }
        x.year(2);
        C.due("done for good", x.workOf(2, 4), 1);
        C.due("not done", x.workOf(1, 4), 0);
    }

    private static void prices() {
        TwoWidths x = new TwoWidths();
        C.due("change", x.change(0, 99), 9);
        C.due("change", x.change(0, 0), 99);
        C.due("change", x.change(11, 5), 9);
        C.due("change", x.change(0, 1), 0);
        C.due("coin", x.coin(2, 9), 1);
        C.due("coin", x.coin(2, 0), 9);
        C.due("coin", x.coin(0, 3), 1);
        C.due("coin", x.coin(2, 1), 0);
        C.due("years", x.years(30), 10);
        C.due("years", x.years(1), 30);
        C.due("years", x.status(6), 1);
        int[][] badChange = {{-1, 0}, {12, 0}, {0, -1}, {0, 100}, {MIN, MAX}};
        for (int[] b : badChange) {
            C.due("bad change", x.change(b[0], b[1]), -2);
        }
        int[][] badCoin = {{-1, 0}, {3, 0}, {0, -1}, {0, 10}, {MAX, MIN}};
        for (int[] b : badCoin) {
            C.due("bad coin", x.coin(b[0], b[1]), -2);
        }
        int[] badYears = {0, 31, -1, MIN, MAX};
        for (int b : badYears) {
            C.due("bad years", x.years(b), -2);
        }
        C.due("refused bad", x.status(12), 15);
        C.due("nothing changed", x.change(0, 1) * 100 + x.coin(0, 1) * 10 + x.years(1), 131);
    }

    private static void washed() {
        TwoWidths x = new TwoWidths();
        C.due("no line", x.washed(0, true), -2);
        x.line(0, 1, 1, 7, 50, 0);
        x.goods(0, 1, 10);
        C.due("there already", x.washed(0, false), 0);
        C.due("washed", x.washed(0, true), 1);
        C.due("told", x.lineOf(0, 6), 1);
        C.due("no way", x.cheapest(0, 1), -5);
        C.due("free", x.free(), 9990);
        C.due("washed already", x.washed(0, true), 0);
        C.due("there again", x.washed(0, false), 1);
        C.due("told", x.lineOf(0, 6), 0);
        C.due("free", x.free(), 70);
        C.due("bad", x.washed(1, true), -2);
        C.due("bad", x.washed(-1, false), -2);
        C.due("bad", x.washed(MAX, false), -2);
        C.due("refused bad", x.status(12), 4);
        C.due("it is a line still", x.status(0), 1);
    }
}
