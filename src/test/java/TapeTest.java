/** Promises 16 to 18. */
public final class TapeTest {
    private static final Check C = new Check("TapeTest");

    public static void main(String[] args) {
        feeding();
        reading();
        faults();
        room();
        wholeOrNothing();
        C.end();
    }

    private static void feeding() {
        TwoWidths x = new TwoWidths();
        C.due("feed", x.feed('y' << 24 | 'e' << 16 | 'a' << 8 | 'r', 4), 4);
        C.due("feed takes the lowest bytes", x.feed(0x7f7f0000 | 's' << 8 | ' ', 2), 6);
        C.due("feed", x.feed(0x41000000 | '1' << 8 | '7', 2), 8);
        C.due("size", x.status(7), 8);
        C.due("land", x.land(), 1);
        C.due("years", x.status(6), 17);
        C.due("empty then", x.status(7), 0);
        C.due("bad n", x.feed(0, 0), -2);
        C.due("bad n", x.feed(0, 5), -2);
        C.due("bad n", x.feed(0, -1), -2);
        C.due("bad n", x.feed(0, Integer.MAX_VALUE), -2);
        C.due("bad n", x.feed(0, Integer.MIN_VALUE), -2);
        for (int i = 1; i <= 62; i++) {
            C.due("feed", x.feed(-1, 4), 4 * i);
        }
        C.due("full", x.feed(0, 3), -6);
        C.due("bad before full", x.feed(0, 5), -2);
        C.due("to the brim", x.feed(0, 2), 250);
        C.due("full", x.feed(0, 1), -6);
        C.due("refused full", x.status(16), 2);
        C.due("refused bad", x.status(12), 6);
        C.due("wipe", x.wipe(), 250);
        C.due("wipe again", x.wipe(), 0);
        C.due("room again", x.feed('a' << 16 | 'b' << 8 | 'c', 3), 3);
    }

    private static void reading() {
        TwoWidths x = new TwoWidths();
        C.due("land", Check.land(x, "line 0 1 width 7 miles 60;line 2 3 width 1 miles 1 bears 5;"
            + "line 4 5 width 2 miles 2 owner 5;line 6 7 width 4 miles 3 bears 999 owner 1"), 4);
        int[][] lines = {{0, 1, 7, 60, 999, 0, 0}, {2, 3, 1, 1, 5, 0, 0}, {4, 5, 2, 2, 999, 5, 0},
            {6, 7, 4, 3, 999, 1, 0}};
        for (int i = 0; i < 4; i++) {
            for (int what = 0; what <= 6; what++) {
                C.due("lineOf", x.lineOf(i, what), lines[i][what]);
            }
        }
        C.due("all sorts, few blanks", Check.land(x, "  change3 0;coin2 9 ;goods11 0 99;work1 0 2 999;work2 3 0 0;"
            + "work3 11 99 007;work4 0 11 5;work5 11 0 6;years030  "), 9);
        C.due("change", x.change(3, 1), 0);
        C.due("coin", x.coin(2, 1), 9);
        C.due("goods", x.goodsOf(0, 0) * 10000 + x.goodsOf(0, 1) * 100 + x.goodsOf(0, 2), 110099);
        C.due("years", x.status(6), 30);
        int[][] works = {{1, 0, 2, 999}, {2, 3, 0, 0}, {3, 11, 99, 7}, {4, 0, 11, 5}, {5, 11, 0, 6}};
        for (int w = 0; w < 5; w++) {
            for (int what = 0; what <= 3; what++) {
                C.due("workOf", x.workOf(w, what), works[w][what]);
            }
        }
        C.due("nothing refused", x.status(12), 0);
        TwoWidths y = new TwoWidths();
        C.due("a work on a line of the same tape", Check.land(y, "line 0 1 width 1 miles 1;work 1 0 0 0"), 2);
        C.due("at the edges", Check.land(y, "line 11 10 width 1 miles 60;line 10 11 width 7 miles 1;goods 0 11 1;"
            + "goods 11 0 99;change 11 99;coin 2 0;years 1"), 7);
        C.due("the last of two counts", Check.land(y, "years 3;years 4;years 5"), 3);
        C.due("years", y.status(6), 5);
    }

    private static void fault(String text, int at) {
        TwoWidths x = new TwoWidths();
        x.line(0, 1, 1, 1, 1, 0);
        C.due("'" + text + "'", Check.land(x, text), -20 - at);
        C.due("'" + text + "': refused", x.status(12), 1);
        C.due("'" + text + "': the tape is empty", x.status(7), 0);
        C.due("'" + text + "': no line", x.status(0), 1);
    }

    private static void early(String text) {
        fault(text, text.length());
    }

    private static void faults() {
        early("");
        early("   ");
        early("line");
        early("line ");
        early("line 0 1 width 1");
        early("line 0 1 width 1 miles");
        early("line 0 1 width 1 miles 3 bears");
        early("line 0 1 width 1 miles 3 bears 3 owner");
        early("work 4 0 1");
        early("goods 0 1");
        early("change 0");
        early("coin 0");
        early("years");
        fault("linez 0", 0);
        fault("line 0 1 width 8 miles 1", 15);
        early("years 5;");
        early("years 5; ");
        fault(";", 0);
        fault(" 7", 1);
        fault("years 5;;years 5", 8);
        fault("years 5 years 6", 8);
        fault("years 5 6", 8);
        fault("lines 0 1 width 1 miles 1", 0);
        fault("lin", 0);
        fault("bears 5", 0);
        fault("Line 0 1", 0);
        fault("line 12 1", 5);
        fault("line 0 12", 7);
        fault("line 5 5", 7);
        fault("line 05 5", 8);
        fault("line 0 1 width 0", 15);
        fault("line 0 1 width 8", 15);
        fault("line 0 1 widths 1", 9);
        fault("line 0 1 width 1 miles 0", 23);
        fault("line 0 1 width 1 miles 61", 23);
        fault("line 0 1 width 1 miles 9 bears 0", 31);
        fault("line 0 1 width 1 miles 9 bears 1000", 31);
        fault("line 0 1 width 1 miles 9 owner 6", 31);
        fault("line 0 1 width 1 miles 9 owner 1 bears 6", 33);
        fault("line 0 1 width 1 miles 9 bears 1 bears 6", 33);
        fault("line 0 1 width 1 miles 9 bears 1 owner 1 2", 41);
        fault("change 12 0", 7);
        fault("change 0 100", 9);
        fault("coin 3 0", 5);
        fault("coin 0 10", 7);
        fault("goods 12 0 1", 6);
        fault("goods 0 12 1", 8);
        fault("goods 7 7 1", 8);
        fault("goods 0 1 0", 10);
        fault("goods 0 1 100", 10);
        fault("work 0 0 0 0", 5);
        fault("work 6 0 0 0", 5);
        fault("work 1 1 0 0", 7);
        fault("work 2 1 0 0", 7);
        fault("work 1 0 3 0", 9);
        fault("work 3 12 0 0", 7);
        fault("work 3 0 100 0", 9);
        fault("work 4 12 0 0", 7);
        fault("work 4 0 12 0", 9);
        fault("work 4 3 3 0", 9);
        fault("work 5 3 3 0", 9);
        fault("work 3 0 0 1000", 11);
        fault("work 3 0 0 0000", 11);
        fault("years 0", 6);
        fault("years 31", 6);
        fault("years 0007", 6);
        fault("years " + "1".repeat(100), 6);
        fault("years 5#", 7);
        fault("years #5", 6);
        fault("years -5", 6);
        fault("years\t5", 5);
        fault("years 5" + (char) 233, 7);
        fault("years x", 6);
        fault("years5x", 6);
        fault((char) 0 + "years 5", 0);
        fault("work 1 1 0 0;line 0 1 width 1 miles 1", 7);
    }

    private static void room() {
        TwoWidths x = new TwoWidths();
        for (int i = 0; i < 19; i++) {
            x.line(0, 1, 1, 1, 1, 0);
        }
        C.due("no room for a line: its word", Check.land(x, "line 0 1 width 1 miles 1;line 0 0"), -45);
        C.due("nothing came", x.status(0), 19);
        C.due("room for one", Check.land(x, "line 0 1 width 1 miles 1"), 1);
        C.due("the word before its numbers", Check.land(x, " line x"), -21);
        for (int i = 0; i < 8; i++) {
            x.goods(0, 1, 1);
        }
        C.due("no room for goods", Check.land(x, "years 3;goods"), -28);
        for (int i = 0; i < 7; i++) {
            x.work(4, 0, 1, 1);
        }
        C.due("no room for a work", Check.land(x, "work 9"), -20);
        C.due("years as they were", x.status(6), 10);
        C.due("other statements are read", Check.land(x, "years 3;change 0 0;coin 0 0"), 3);
    }

    private static void wholeOrNothing() {
        TwoWidths x = new TwoWidths();
        C.due("a late fault", Check.land(x, "line 0 1 width 1 miles 1;goods 0 1 1;work 1 0 0 1;change 0 1;coin 0 2;"
            + "years 3;years"), -103);
        C.due("nothing came", x.status(0) + x.status(1) + x.status(2), 0);
        C.due("years as they were", x.status(6), 10);
        C.due("change as it was", x.change(0, 9), 9);
        C.due("coin as it was", x.coin(0, 1), 1);
        C.due("land adds", Check.land(x, "line 0 1 width 1 miles 1"), 1);
        C.due("land adds", Check.land(x, "line 0 1 width 1 miles 1"), 1);
        C.due("lines", x.status(0), 2);
    }
}
