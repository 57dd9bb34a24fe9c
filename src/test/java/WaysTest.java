/** Promises 22 to 25, 39 and 40. */
public final class WaysTest {
    private static final int MIN = Integer.MIN_VALUE;
    private static final int MAX = Integer.MAX_VALUE;
    private static final Check C = new Check("WaysTest");

    public static void main(String[] args) {
        cheapest();
        freeAfterChanges();
        wayParts();
        firstRow();
        costless();
        noWay();
        inTurn();
        inTurnTwice();
        ports();
        hangs();
        C.end();
    }

    private static void cheapest() {
        // 0 -w0- 1 -w2- 2, and a long way round in w0 alone
        TwoWidths x = Check.of("line 0 1 width 1 miles 10;line 2 1 width 4 miles 5;line 0 2 width 1 miles 30");
        C.due("with a change", x.cheapest(0, 2), 24);
        C.due("back again", x.cheapest(2, 0), 24);
        C.due("one line", x.cheapest(1, 0), 10);
        C.due("one place", x.cheapest(7, 7), 0);
        C.due("no way", x.cheapest(0, 3), -5);
        x.change(1, 15);
        C.due("as dear as the long way", x.cheapest(0, 2), 30);
        x.change(1, 99);
        C.due("the long way", x.cheapest(0, 2), 30);
        x.coin(0, 9);
        C.due("coin of a width", x.cheapest(0, 2), 194);
        x.coin(2, 0);
        C.due("coin 0", x.cheapest(1, 2), 0);
        int[][] bad = {{-1, 0}, {12, 0}, {0, -1}, {0, 12}, {12, 12}, {-1, -1}, {MIN, MAX}};
        for (int[] b : bad) {
            C.due("bad", x.cheapest(b[0], b[1]), -2);
        }
        C.due("refused bad", x.status(12), bad.length);
        C.due("refused stuck", x.status(15), 1);
        TwoWidths y = Check.of("line 0 1 width 1 miles 10;line 1 2 width 2 miles 10;line 2 3 width 1 miles 10;"
            + "line 0 3 width 7 miles 49;change 1 8;change 2 11");
        C.due("two changes", y.cheapest(0, 3), 49);
        y.change(2, 10);
        C.due("two changes", y.cheapest(3, 0), 48);
        TwoWidths z = Check.of("line 0 1 width 7 miles 60;line 1 2 width 7 miles 60");
        z.coin(0, 9);
        z.coin(1, 9);
        z.coin(2, 9);
        C.due("dearer than 999 is a way still", z.cheapest(0, 2), 1080);
        z.goods(0, 2, 2);
        C.due("and free has it so", z.free(), 2160);
    }

    // What is known of FREE must be forgotten with every change of the land.
    private static void freeAfterChanges() {
        TwoWidths x = new TwoWidths();
        C.due("empty", x.free(), 0);
        x.goods(0, 1, 10);
        C.due("goods", x.free(), 9990);
        x.line(0, 2, 1, 20, 9, 0);
        C.due("no way yet", x.free(), 9990);
        x.line(2, 1, 2, 20, 9, 0);
        C.due("a way", x.free(), 490);
        x.change(2, 1);
        C.due("change", x.free(), 410);
        x.coin(0, 2);
        C.due("coin", x.free(), 610);
        x.washed(0, true);
        C.due("washed", x.free(), 9990);
        x.washed(0, false);
        C.due("there", x.free(), 610);
        Check.land(x, "coin 0 1;line 0 1 width 1 miles 30");
        C.due("land", x.free(), 300);
        x.work(4, 0, 1, 5);
        C.due("worth", x.worth(0), 10 * 200 - 5);
        x.work(1, 2, 1, 5);
        C.due("worth", x.worth(1), -5);
        x.work(3, 2, 0, 5);
        C.due("worth", x.worth(2), -5);
        x.image();
        x.year(0);
        C.due("year", x.free(), 100);
        C.due("worth", x.worth(1), -5);
        x.back();
        C.due("back", x.free(), 300);
        C.due("worth", x.worth(0), 10 * 200 - 5);
    }

    private static void wayParts() {
        TwoWidths x = Check.of("line 0 1 width 1 miles 10;line 1 2 width 4 miles 5;line 2 3 width 6 miles 5;"
            + "line 3 4 width 2 miles 1;goods 0 4 7;goods 4 0 1");
        C.due("lines", x.way(0, 0), 4);
        C.due("changes", x.way(0, 1), 2);
        C.due("width at first", x.way(0, 2), 0);
        C.due("width at the end", x.way(0, 3), 1);
        for (int i = 0; i < 4; i++) {
            C.due("line " + i, x.way(0, 10 + i), i);
            C.due("line " + i + " back", x.way(1, 10 + i), 3 - i);
        }
        C.due("back: width at first", x.way(1, 2), 1);
        C.due("back: width at the end", x.way(1, 3), 0);
        int[][] bad = {{0, 14}, {0, 4}, {0, 9}, {0, -1}, {2, 0}, {-1, 0}, {0, MAX}, {0, MIN}, {MAX, 0}};
        for (int[] b : bad) {
            C.due("bad way", x.way(b[0], b[1]), -2);
        }
        C.due("refused bad", x.status(12), bad.length);
        C.due("free", x.free(), 8 * (10 + 9 + 5 + 5 + 9 + 1));
    }

    private static void firstRow() {
        // a change at 2 before one at 3: the row with the change (1) comes before the one with the line (3 and 2)
        TwoWidths x = Check.of("line 0 2 width 1 miles 5;line 3 4 width 2 miles 5;line 2 3 width 3 miles 5;goods 0 4 1");
        C.due("width at first", x.way(0, 2), 0);
        C.due("lines", x.way(0, 10) * 100 + x.way(0, 11) * 10 + x.way(0, 12), 21);
        C.due("changed at 2", x.port(2, true), 1);
        C.due("not at 3", x.port(3, true), 0);
        // the least width first, though a line of a lower number has another
        TwoWidths y = Check.of("line 0 1 width 4 miles 5;line 0 1 width 2 miles 5;line 0 1 width 6 miles 5;goods 0 1 1");
        C.due("width", y.way(0, 2), 1);
        C.due("the first line that has it", y.way(0, 10), 1);
        // two ways by lines alone: the line of the lower number at the first step, though longer in lines
        TwoWidths z = Check.of("line 0 1 width 1 miles 2;line 0 2 width 1 miles 4;line 1 2 width 1 miles 2;goods 0 2 1;"
            + "goods 2 0 1");
        C.due("longer in lines", z.way(0, 0), 2);
        C.due("back: line 1 is before line 2", z.way(1, 0), 1);
        // a change at the beginning only where it is cheapest; here the width itself costs nothing
        TwoWidths v = Check.of("line 0 1 width 4 miles 5;goods 0 1 1");
        C.due("no change", v.way(0, 1), 0);
        C.due("width 2 at once", v.way(0, 2), 2);
    }

    private static void costless() {
        // where a change costs nothing the row 0 1 2 .. is before 0 2 .. and before 2 ..
        TwoWidths x = Check.of("line 0 1 width 4 miles 5;goods 0 1 3;change 0 0");
        C.due("width at first", x.way(0, 2), 0);
        C.due("changes", x.way(0, 1), 2);
        C.due("lines", x.way(0, 0), 1);
        C.due("width at the end", x.way(0, 3), 2);
        C.due("changed", x.port(0, true), 6);
        C.due("through", x.port(0, false), 3);
        C.due("cheapest", x.cheapest(0, 1), 5);
        // the end is the end: no change there, though it costs nothing
        TwoWidths y = Check.of("line 0 1 width 1 miles 5;goods 0 1 3;change 1 0");
        C.due("changes", y.way(0, 1), 0);
        // all costs nothing: a round by lines of lower numbers is walked as far as no place is met twice in a width
        TwoWidths z = Check.of("coin 0 0;line 0 1 width 1 miles 9;line 1 2 width 1 miles 9;line 2 0 width 1 miles 9;"
            + "line 0 3 width 1 miles 9;line 2 3 width 1 miles 9;goods 0 3 1");
        C.due("lines", z.way(0, 0), 3);
        C.due("line", z.way(0, 10) * 100 + z.way(0, 11) * 10 + z.way(0, 12), 14);
        // a blind alley that costs nothing is not gone into, for it can't be left again
        TwoWidths v = Check.of("coin 0 0;line 0 1 width 1 miles 9;line 0 2 width 1 miles 9;goods 0 2 1");
        C.due("lines", v.way(0, 0), 1);
        C.due("line", v.way(0, 10), 1);
        // but it can be left in another width
        v.line(0, 1, 2, 9, 9, 0);
        v.line(0, 2, 2, 9, 9, 0);
        v.coin(1, 0);
        v.change(1, 0);
        C.due("lines", v.way(0, 0), 3);
        C.due("changes", v.way(0, 1), 1);
        C.due("line", v.way(0, 10) * 100 + v.way(0, 11) * 10 + v.way(0, 12), 23);
        C.due("through 0 once", v.port(0, false), 1);
    }

    private static void noWay() {
        TwoWidths x = Check.of("line 0 1 width 1 miles 5;goods 0 2 7;goods 1 0 10;goods 4 5 1");
        C.due("way", x.way(0, 0), -5);
        C.due("way", x.way(0, 3), -5);
        C.due("bad before stuck", x.way(0, 4), -2);
        C.due("free", x.free(), 8 * 999 + 50);
        C.due("turn", x.turn(0), 8 * 999 + 50);
        C.due("tons without a way", x.turn(1), 8);
        C.due("refused stuck", x.status(15), 2);
        C.due("empty land", new TwoWidths().free(), 0);
    }

    private static void inTurn() {
        TwoWidths x = Check.of("line 0 1 width 1 miles 5 bears 50;line 0 1 width 1 miles 8 bears 30;"
            + "goods 0 1 40;goods 1 0 20;goods 0 1 10;goods 0 1 15;goods 0 1 10;goods 5 6 3");
        // 40 by line 0, 20 by line 1, 10 by line 0 (which is empty then), 15 by none, 10 by line 1
        C.due("cost", x.turn(0), 200 + 160 + 50 + 15 * 999 + 80 + 3 * 999);
        C.due("without", x.turn(1), 18);
        C.due("left 0", x.turn(10), 0);
        C.due("left 1", x.turn(11), 0);
        C.due("free is as if they bore all", x.free(), 95 * 5 + 3 * 999);
        int[] bad = {2, 9, 12, -1, MIN, MAX};
        for (int b : bad) {
            C.due("bad turn", x.turn(b), -2);
        }
        C.due("refused bad", x.status(12), bad.length);
        x.washed(0, true);
        C.due("washed lines bear nothing", x.turn(10), 50);
        // 20 and 10 by line 1; 40 and 15 and 10 by none
        C.due("cost", x.turn(0), 30 * 8 + 65 * 999 + 3 * 999);
    }

    private static void inTurnTwice() {
        // the line is on the way twice, in two widths, and bears only once so much: it is at 0 then, not below
        TwoWidths x = Check.of("coin 0 0;coin 1 0;change 1 0;line 0 1 width 3 miles 9 bears 50;"
            + "line 0 2 width 2 miles 9 bears 99;goods 0 2 40;goods 0 1 10");
        C.due("lines", x.way(0, 0), 3);
        C.due("line 0 twice", x.way(0, 10) * 10 + x.way(0, 11), 0);
        C.due("left", x.turn(10), 0);
        C.due("left", x.turn(11), 59);
        C.due("without", x.turn(1), 10);
        C.due("earned for each time", x.earns(0), 40 * 27 + 10 * 9);
    }

    private static void ports() {
        TwoWidths x = Check.of("line 0 1 width 1 miles 5;line 1 2 width 2 miles 5;line 2 3 width 1 miles 5;"
            + "goods 0 3 7;goods 2 1 20;goods 3 2 1;goods 0 9 50");
        int[] through = {7, 27, 28, 8, 0};
        int[] changed = {0, 7, 7, 0, 0};
        for (int p = 0; p < 5; p++) {
            C.due("through " + p, x.port(p, false), through[p]);
            C.due("changed " + p, x.port(p, true), changed[p]);
        }
        C.due("goods without a way come to no place", x.port(9, false), 0);
        int[] bad = {-1, 12, MIN, MAX};
        for (int b : bad) {
            C.due("bad port", x.port(b, true), -2);
            C.due("bad port", x.port(b, false), -2);
        }
        C.due("refused bad", x.status(12), 2 * bad.length);
    }

    private static void hangs() {
        TwoWidths x = new TwoWidths();
        C.due("no lines", x.hangs(), -5);
        x.line(0, 1, 1, 5, 9, 0);
        C.due("without goods the first", x.hangs(), 0);
        x.line(1, 2, 1, 5, 9, 0);
        x.line(1, 2, 1, 6, 9, 0);
        x.goods(1, 2, 99);
        C.due("the one that has no other beside it", x.hangs(), 1);
        x.goods(0, 1, 1);
        C.due("999 a ton", x.hangs(), 0);
        x.line(1, 0, 1, 5, 9, 0);
        C.due("99 tons a coin more", x.hangs(), 1);
        x.washed(1, true);
        C.due("of those there", x.hangs(), 2);
        x.washed(2, true);
        C.due("both equal: the first", x.hangs(), 0);
        x.washed(0, true);
        x.washed(3, true);
        C.due("none there", x.hangs(), -5);
        C.due("refused stuck", x.status(15), 2);
    }
}
