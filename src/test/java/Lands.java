/** Objects in states that tests of refusals and edges begin with. */
final class Lands {
    private Lands() {
    }

    /** Nothing there yet. */
    static TwoWidths empty() {
        return new TwoWidths();
    }

    /**
     * Some of all: LINES 0 to 3 (2 WASHED away), GOODS 0 to 2, WORKS 0 to 3 (1 DONE for good), an image with less,
     * a TAPE that is a LAND; SHELVES: 0 a ROW of 5 bytes (a PLAN that is not WRONG), 1 one of 3 bytes, 2 one of
     * 40 longs (WRONG at 1), 3 WORK 0 (a THIRD), 4 a ROW of no ints, 5 WORK 3 (a NEW), 6 and 7 NOTHING.
     */
    static TwoWidths mixed() {
        TwoWidths x = Check.of("line 0 1 width 1 miles 10 bears 40 owner 1;line 1 2 width 4 miles 5 bears 40 owner 2;"
            + "line 0 2 width 2 miles 30;goods 0 2 25;goods 2 1 10;work 2 1 0 300;work 3 1 2 20|change 4 44;years 12");
        x.image();
        Check.land(x, "line 3 4 width 7 miles 6 owner 5;goods 3 4 9;work 1 0 2 999;work 4 0 2 500;coin 2 3");
        x.year(1);
        x.washed(2, true);
        x.row(0, 0, 5);
        x.set(0, 0, 2);
        x.set(0, 1, -1);
        x.row(1, 0, 3);
        x.set(1, 2, 77);
        x.row(2, 3, 40);
        x.set(2, 39, 5);
        x.show(3, 0);
        x.row(4, 2, 0);
        x.show(5, 3);
        Check.feed(x, "years 7;goods 5 6 9");
        return x;
    }

    /** 20 LINES, 8 GOODS, 7 WORKS (6 DONE for good). */
    static TwoWidths full() {
        TwoWidths x = new TwoWidths();
        x.line(10, 11, 7, 1, 1, 0);
        x.image();
        for (int i = 0; i < 19; i++) {
            x.line(i % 11, i % 11 + 1, 1 + i % 7, 60 - i, 99, i % 6);
        }
        for (int i = 0; i < 8; i++) {
            x.goods(i, 11 - i, 99 - i);
        }
        for (int i = 0; i < 7; i++) {
            x.work(1 + i % 5, i, i == 0 ? 1 : 0, 9999 - i);
        }
        x.year(6);
        x.row(0, 0, 40);
        return x;
    }

    /** A TAPE of 250 bytes, which is a LAND of 31 STATEMENTS. */
    static TwoWidths fullTape() {
        TwoWidths x = new TwoWidths();
        Check.feed(x, "years 9;".repeat(30) + "years    9");
        return x;
    }

    /** Each SHELF holds a ROW of 40 longs: element i of SHELF s is 100 * s and i. */
    static TwoWidths rows() {
        TwoWidths x = new TwoWidths();
        for (int s = 0; s < 8; s++) {
            x.row(s, 3, 40);
            for (int i = 0; i < 40; i++) {
                x.set(s, i, 100 * s + i);
            }
        }
        return x;
    }

    /** Each SHELF holds a PLAN of 40 elements that tell no WORK; there is one WORK. */
    static TwoWidths plans() {
        TwoWidths x = Check.of("line 0 1 width 1 miles 5;goods 0 1 3;work 4 0 1 5");
        for (int s = 0; s < 8; s++) {
            x.row(s, 0, 40);
            for (int i = 0; i < 40; i++) {
                x.set(s, i, -1);
            }
        }
        return x;
    }

    /** Each SHELF holds a WORK; that in SHELF 0 is a DOUBLE. */
    static TwoWidths shown() {
        TwoWidths x = new TwoWidths();
        x.work(5, 3, 4, 77);
        for (int s = 0; s < 8; s++) {
            x.show(s, 0);
        }
        return x;
    }

    /** So many LINES, all alike. */
    static TwoWidths lines(int count) {
        TwoWidths x = new TwoWidths();
        for (int i = 0; i < count; i++) {
            x.line(0, 1, 1, 1, 1, 0);
        }
        return x;
    }

    /** 7 WORKS, none of them DONE for good. */
    static TwoWidths sevenWorks() {
        return Check.of("line 0 1 width 1 miles 20 owner 3;goods 0 1 5;work 1 0 1 5;work 2 0 1 5;work 3 0 0 5;"
            + "work 4 0 1 5;work 5 0 1 5;work 3 1 9 5;work 1 0 2 5");
    }

    /** WORK 0 helps nothing; 1 and 2 are NEW LINES that help only together; 0 and 2 are DONE for good since the image. */
    static TwoWidths pair() {
        TwoWidths x = Check.of("goods 0 2 1;work 3 5 0 1;work 4 0 1 1;work 4 1 2 1");
        x.image();
        x.year(0);
        x.year(2);
        return x;
    }

    /** NEW LINES that help only together, of which WORK 1 is DONE for good since the image. */
    static TwoWidths laterPair() {
        TwoWidths x = Check.of("goods 0 2 1;work 4 0 1 1;work 4 1 2 1");
        x.image();
        x.year(1);
        return x;
    }

    /** A NEW LINE that helps nothing as long as it is the only one. */
    static TwoWidths half() {
        return Check.of("goods 0 2 1;work 4 0 1 1");
    }
}
