/** Promises 36 to 38. */
public final class OwnersTest {
    private static final int MIN = Integer.MIN_VALUE;
    private static final int MAX = Integer.MAX_VALUE;
    private static final Check C = new Check("OwnersTest");

    public static void main(String[] args) {
        earns();
        gains();
        C.end();
    }

    private static void earns() {
        TwoWidths x = Check.of("coin 0 3;line 0 1 width 1 miles 5 bears 1 owner 5;line 1 2 width 1 miles 7 bears 1 owner 0;"
            + "line 0 2 width 1 miles 13 owner 3;goods 0 2 10;goods 2 1 4;goods 0 9 99");
        C.due("by miles, not by coin, whatever lines bear", x.earns(5), 50);
        C.due("of all goods", x.earns(0), 70 + 28);
        C.due("not on a way", x.earns(3), 0);
        C.due("no lines", x.earns(1), 0);
        x.washed(1, true);
        C.due("round about", x.earns(3), 10 * 13 + 4 * 13);
        C.due("round about", x.earns(5), 4 * 5);
        int[] bad = {-1, 6, MIN, MAX};
        for (int b : bad) {
            C.due("bad owner", x.earns(b), -2);
        }
        C.due("refused bad", x.status(12), bad.length);
        // of two equal ways the first row earns
        TwoWidths y = Check.of("line 0 1 width 1 miles 5 owner 1;line 0 1 width 1 miles 5 owner 2;goods 0 1 3");
        C.due("the first", y.earns(1), 15);
        C.due("the other", y.earns(2), 0);
    }

    private static void gains() {
        TwoWidths x = Check.of("line 0 1 width 1 miles 5 owner 1;line 1 2 width 2 miles 5 owner 2;"
            + "line 0 2 width 4 miles 15 owner 3;goods 0 2 10;goods 0 1 1;work 2 1 0 999;work 4 0 2 0");
        C.due("earns", x.earns(1), 5);
        C.due("earns", x.earns(3), 150);
        C.due("1 gains", x.gains(1, 0), 50);
        C.due("2 gains", x.gains(2, 0), 50);
        C.due("3 loses", x.gains(3, 0), -150);
        C.due("4 neither", x.gains(4, 0), 0);
        C.due("losers", x.losers(0), 8);
        C.due("the owner of a new line gains", x.gains(0, 1), 100);
        C.due("losers", x.losers(1), 8);
        x.year(0);
        C.due("gains of a done one", x.gains(1, 0), -1000005);
        C.due("losers of a done one", x.losers(0), -5);
        C.due("refused stuck", x.status(15), 2);
        C.due("two cheap lines stay before a new one", x.losers(1), 0);
        C.due("bad owner before a done work", x.gains(6, 0), -1000002);
        int[][] bad = {{-1, 1}, {6, 1}, {0, 2}, {0, -1}, {MIN, MAX}};
        for (int[] b : bad) {
            C.due("bad gains", x.gains(b[0], b[1]), -1000002);
        }
        int[] badLosers = {-1, 2, MIN, MAX};
        for (int b : badLosers) {
            C.due("bad losers", x.losers(b), -2);
        }
        C.due("refused bad", x.status(12), 1 + bad.length + badLosers.length);
        C.due("nothing is done in truth", x.status(0), 3);
        TwoWidths y = Check.of("line 0 1 width 1 miles 5 owner 0;line 0 1 width 1 miles 6 owner 5;goods 0 1 1;work 1 0 1 0");
        y.change(0, 0);
        C.due("nobody loses by another width", y.losers(0), 0);
        y.coin(1, 9);
        C.due("0 loses to 5", y.losers(0), 1);
        C.due("5 gains", y.gains(5, 0), 6);
    }
}
