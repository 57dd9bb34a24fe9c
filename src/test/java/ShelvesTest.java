/** Promises 1 to 8. */
public final class ShelvesTest {
    private static final int MIN = Integer.MIN_VALUE;
    private static final int MAX = Integer.MAX_VALUE;
    private static final Check C = new Check("ShelvesTest");

    public static void main(String[] args) {
        newObject();
        rows();
        elements();
        copies();
        works();
        sayings();
        C.end();
    }

    private static void newObject() {
        TwoWidths x = new TwoWidths();
        int[] at = {0, 0, 0, 0, 0, 0, 10, 0, 0};
        for (int what = 0; what < at.length; what++) {
            C.due("new: status(" + what + ")", x.status(what), at[what]);
        }
        for (int what = 12; what <= 16; what++) {
            C.due("new: status(" + what + ")", x.status(what), 0);
        }
        for (int s = 0; s < 8; s++) {
            C.due("new: holds(" + s + ")", x.holds(s), -1);
        }
        C.due("NONE", TwoWidths.NONE, -1);
        C.due("new: free()", x.free(), 0);
        C.due("new: back()", x.back(), -5);
        C.due("new: wipe()", x.wipe(), 0);
        C.due("new: change", x.change(11, 9), 9);
        C.due("new: coin", x.coin(2, 1), 1);
    }

    private static void rows() {
        TwoWidths x = new TwoWidths();
        for (int sort = 0; sort <= 4; sort++) {
            C.due("row", x.row(sort, sort, 40 - sort), 1);
            C.due("holds", x.holds(sort), sort);
        }
        C.due("row of 0", x.row(7, 0, 0), 1);
        C.due("holds 7", x.holds(7), 0);
        C.due("element of an empty row", x.element(7, 0), 0);
        C.due("set on an empty row", x.set(7, 0, 1), -2);
        int[][] bad = {{-1, 0, 1}, {8, 0, 1}, {0, -1, 1}, {0, 5, 1}, {0, 0, -1}, {0, 0, 41}, {MIN, 0, 1}, {0, MAX, 1},
            {0, 0, MAX}, {0, 0, MIN}};
        for (int[] b : bad) {
            C.due("bad row", x.row(b[0], b[1], b[2]), -2);
        }
        C.due("refused", x.status(12), 1 + bad.length);
        C.due("in use", x.status(8), 6);
        x.set(0, 39, 5);
        C.due("the last element", x.element(0, 39), 5);
        x.row(0, 0, 40);
        C.due("a new row begins at 0", x.element(0, 39), 0);
        x.row(4, 4, 2);
        C.due("booleans not so at first", x.element(4, 1), 0);
        C.due("holds beyond", x.holds(8), -1);
        C.due("holds below", x.holds(-1), -1);
        C.due("holds refuses nothing", x.status(12), 1 + bad.length);
    }

    private static void elements() {
        TwoWidths x = new TwoWidths();
        long[] put = {0x1234_5678_9abc_def0L, -1, 128, 32768, 2147483648L, 256, 65536, 4294967296L, Long.MIN_VALUE};
        long[][] due = {
            {(byte) 0xf0, -1, -128, 0, 0, 0, 0, 0, 0},
            {(short) 0xdef0, -1, 128, -32768, 0, 256, 0, 0, 0},
            {0x9abcdef0, -1, 128, 32768, -2147483648L, 256, 65536, 0, 0},
            put,
            {1, 1, 1, 1, 1, 1, 1, 1, 1}};
        for (int sort = 0; sort <= 4; sort++) {
            x.row(sort, sort, put.length);
            for (int i = 0; i < put.length; i++) {
                C.due("set", x.set(sort, i, put[i]), 1);
                C.due("element " + i + " of sort " + sort, x.element(sort, i), due[sort][i]);
            }
        }
        x.set(4, 0, 0);
        C.due("a boolean is not so", x.element(4, 0), 0);
        x.work(3, 0, 0, 0);
        x.show(6, 0);
        C.due("set: bad shelf", x.set(8, 0, 0), -2);
        C.due("set: bad shelf below", x.set(MIN, 0, 0), -2);
        C.due("set: other before a bad i", x.set(6, 99, 0), -3);
        C.due("set: nothing before a bad i", x.set(7, 99, 0), -4);
        C.due("set: bad i", x.set(0, put.length, 0), -2);
        C.due("set: bad i below", x.set(0, -1, 0), -2);
        C.due("element: a work", x.element(6, 0), 0);
        C.due("element: nothing", x.element(7, 0), 0);
        C.due("element: no shelf", x.element(-1, 0), 0);
        C.due("element: no shelf", x.element(MAX, 0), 0);
        C.due("element: none", x.element(0, put.length), 0);
        C.due("element: none below", x.element(0, MIN), 0);
        C.due("refused bad", x.status(12), 4);
        C.due("refused other", x.status(13), 1);
        C.due("refused nothing", x.status(14), 1);
    }

    private static void copies() {
        TwoWidths x = new TwoWidths();
        x.row(0, 2, 5);
        x.row(1, 2, 3);
        x.row(2, 3, 5);
        x.work(3, 0, 0, 0);
        x.show(3, 0);
        for (int i = 0; i < 5; i++) {
            x.set(0, i, 10 + i);
        }
        C.due("copy", x.copy(0, 1, 2, 1, 2), 2);
        C.due("copied", x.element(1, 0) * 10000 + x.element(1, 1) * 100 + x.element(1, 2), 1213);
        C.due("copy onto itself upward", x.copy(0, 0, 0, 1, 4), 4);
        for (int i = 0; i < 5; i++) {
            C.due("as they were " + i, x.element(0, i), i == 0 ? 10 : 9 + i);
        }
        C.due("copy onto itself downward", x.copy(0, 0, 1, 0, 4), 4);
        C.due("as they were", x.element(0, 0) * 100 + x.element(0, 3), 1013);
        C.due("copy of 0", x.copy(0, 1, 5, 3, 0), 0);
        C.due("bad shelf first", x.copy(8, 3, 0, 0, 1), -2);
        C.due("bad shelf first", x.copy(3, -1, 0, 0, 1), -2);
        C.due("other before nothing", x.copy(3, 4, 0, 0, 1), -3);
        C.due("other before nothing", x.copy(4, 3, 0, 0, 1), -3);
        C.due("two sorts", x.copy(0, 2, 99, 0, 1), -3);
        C.due("nothing before bad", x.copy(0, 4, 99, 0, 1), -4);
        C.due("nothing before bad", x.copy(4, 2, 0, 0, -1), -4);
        int[][] bad = {{-1, 0, 1}, {0, -1, 1}, {0, 0, -1}, {3, 0, 3}, {0, 1, 3}, {6, 0, 0}, {0, 4, 0}, {MAX, 0, MAX},
            {0, 0, MIN}, {MIN, MIN, MIN}, {0, MAX, 1}, {MAX, MAX, 1}};
        for (int[] b : bad) {
            C.due("bad copy " + b[0] + " " + b[1] + " " + b[2], x.copy(0, 1, b[0], b[1], b[2]), -2);
        }
        C.due("refused bad", x.status(12), 2 + bad.length);
        C.due("refused other", x.status(13), 3);
        C.due("refused nothing", x.status(14), 2);
    }

    private static void works() {
        TwoWidths x = new TwoWidths();
        x.work(3, 0, 0, 0);
        x.work(3, 1, 0, 0);
        C.due("show", x.show(0, 1), 1);
        C.due("holds a work", x.holds(0), 11);
        C.due("show none", x.show(0, -1), 1);
        C.due("holds nothing", x.holds(0), -1);
        C.due("show none again", x.show(0, -1), 1);
        x.row(1, 4, 1);
        C.due("show over a row", x.show(1, 0), 1);
        C.due("holds a work", x.holds(1), 10);
        C.due("row over a work", x.row(1, 3, 1), 1);
        C.due("holds a row", x.holds(1), 3);
        int[][] bad = {{-1, 0}, {8, 0}, {0, 2}, {0, -2}, {0, MAX}, {0, MIN}, {8, -1}};
        for (int[] b : bad) {
            C.due("bad show", x.show(b[0], b[1]), -2);
        }
        C.due("refused", x.status(12), bad.length);
        x.year(0);
        C.due("show a done one", x.show(2, 0), 1);
    }

    private static void sayings() {
        TwoWidths x = Check.of("line 0 1 width 1 miles 1; line 0 2 width 1 miles 1; work 1 1 2 11; work 2 1 1 12;"
            + "work 3 7 99 13; work 4 3 11 14; work 5 11 4 15");
        // by works, then by kinds; -3 where the work is of no such kind
        int[][] due = {{11, 1, -3, -3, -3, -3}, {12, 1, 1, -3, -3, -3}, {13, -3, -3, 7, -3, -3},
            {14, -3, -3, -3, 311, -3}, {15, -3, -3, -3, 1104, 1104}};
        for (int w = 0; w < 5; w++) {
            x.show(w, w);
            for (int kind = 0; kind <= 5; kind++) {
                C.due("work " + w + " says as " + kind, x.says(w, kind), due[w][kind]);
            }
        }
        C.due("refused other", x.status(13), 18);
        x.row(5, 0, 1);
        C.due("bad shelf", x.says(-1, 0), -2);
        C.due("bad shelf", x.says(8, 0), -2);
        C.due("bad kind before other", x.says(5, 6), -2);
        C.due("bad kind before nothing", x.says(6, -1), -2);
        C.due("a row", x.says(5, 0), -3);
        C.due("nothing", x.says(6, 0), -4);
        C.due("refused bad", x.status(12), 4);
        C.due("refused nothing", x.status(14), 1);
    }
}
