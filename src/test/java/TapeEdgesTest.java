/** The sentences of "Terms" about THE TAPE that name an edge, each with a test of its own. */
public final class TapeEdgesTest {
    private static final Check C = new Check("TapeEdgesTest");
    private static final String ALL = "line 0 1 width 1 miles 1 bears 2 owner 3;change 4 5;coin 2 6;goods 7 8 9;"
        + "work 3 10 11 12;years 13";

    public static void main(String[] args) {
        size();
        bytesOfFeed();
        tokensAsLongAsCanBe();
        blanks();
        bytesThatBeginNone();
        statements();
        numbersOfLines();
        numbersOfOthers();
        numbersOfWorks();
        digits();
        notTold();
        wordsInTheirOrder();
        missingNumbers();
        unlikePlaces();
        room();
        roomAmongStatements();
        linesThatThereAreThen();
        endsTooEarly();
        firstFaultCounts();
        allOrNothing();
        emptyThenEitherWay();
        C.end();
    }

    // One LINE stands before, so that WORKS of LINES have one.
    private static TwoWidths oneLine() {
        TwoWidths x = new TwoWidths();
        x.line(0, 1, 1, 1, 1, 0);
        return x;
    }

    private static void reads(String text, int statements) {
        C.due("'" + text + "' is a LAND", Check.land(oneLine(), text), statements);
    }

    private static void fault(String text, int at) {
        TwoWidths x = oneLine();
        C.due("'" + text + "' has a FAULT", Check.land(x, text), -20 - at);
        C.due("'" + text + "' is refused", x.status(12), 1);
    }

    // "bytes, 250 at most"
    private static void size() {
        for (int n = 1; n <= 4; n++) {
            TwoWidths x = new TwoWidths();
            Check.feed(x, " ".repeat(250 - n));
            C.due("feed up to 250", x.feed(0, n), 250);
            C.due("feed beyond", x.feed(0, 1), -6);
            C.due("size", x.status(7), 250);
            TwoWidths y = new TwoWidths();
            Check.feed(y, " ".repeat(251 - n));
            C.due("feed to 251", y.feed(0, n), -6);
            C.due("nothing of it came", y.status(7), 251 - n);
        }
        C.due("a LAND of 250 bytes", Lands.fullTape().land(), 31);
        TwoWidths z = Lands.fullTape();
        C.due("wiped", z.wipe(), 250);
        C.due("room again", z.feed(0, 4), 4);
        C.due("most STATEMENTS", Check.land(new TwoWidths(), "years1;".repeat(35) + "coin0"), -20 - 250);
        C.due("most STATEMENTS", Check.land(new TwoWidths(), "years1;".repeat(34) + "years2"), 35);
    }

    // "the n lowest bytes (1 .. 4) of v behind it, the highest of these first"
    private static void bytesOfFeed() {
        int v = 'a' << 24 | 'y' << 16 | ';' << 8 | '7';
        int[] faults = {0, 0, 0, 0};
        String[] told = {"7", ";7", "y;7", "ay;7"};
        for (int n = 1; n <= 4; n++) {
            TwoWidths x = new TwoWidths();
            C.due("feed", x.feed(v, n), n);
            C.due("as '" + told[n - 1] + "'", x.land(), -20 - faults[n - 1]);
        }
        TwoWidths y = new TwoWidths();
        y.feed('y', 1);
        y.feed('e' << 8 | 'a', 2);
        y.feed(0x7f << 24 | 'r' << 16 | 's' << 8 | ' ', 3);
        y.feed(0x80000000 | '1' << 8 | '2', 2);
        C.due("in their order", y.land(), 1);
        C.due("years", y.status(6), 12);
        TwoWidths z = new TwoWidths();
        z.feed(0xf9656172, 4);
        C.due("a byte above 127 is no letter", z.land(), -20);
    }

    // "TOKENS, each as long as can be: WORDS (a .. z), NUMBERS (digits), the SIGN ;"
    private static void tokensAsLongAsCanBe() {
        reads("line0 1width1miles1bears2owner3;years12", 2);
        fault("line 0 1 width 1miles 1;years 3;", 32);
        fault("yearsyears 5", 0);
        fault("yearsx 5", 0);
        fault("xyears 5", 0);
        fault("year 5", 0);
        fault("line 0 1 width 1 milesbears 1", 17);
        TwoWidths x = new TwoWidths();
        C.due("digits side by side are one NUMBER", Check.land(x, "years 12"), 1);
        C.due("years", x.status(6), 12);
        fault("change 01", 9);
        fault("change 0150", 7);
        fault("years 5;;", 8);
    }

    // "blanks (32) may stand anywhere between"
    private static void blanks() {
        reads("   years   5   ;   years   6   ", 2);
        reads("years 5;years 6", 2);
        reads("years 5 ;years 6", 2);
        reads("years5;years6", 2);
        fault("ye ars 5", 0);
        fault("years 1 2", 8);
        fault("change 1 2 3", 11);
        fault("years 5 ; ;", 10);
    }

    // "a byte that begins none": at the beginning, behind a WORD, behind a NUMBER, behind the SIGN
    private static void bytesThatBeginNone() {
        for (int b = 0; b < 256; b++) {
            boolean letter = b >= 'a' && b <= 'z';
            boolean digit = b >= '0' && b <= '9';
            if (!letter && !digit && b != ' ' && b != ';') {
                String s = String.valueOf((char) b);
                fault(s, 0);
                fault(s + "years 5", 0);
                fault("years" + s + "5", 5);
                fault("years 5" + s, 7);
                fault("years 5;" + s, 8);
                fault("years 5 " + s + ";years 6", 8);
            }
        }
        for (char c = 'a'; c <= 'z'; c++) {
            fault("years" + c + " 5", 0);
            fault("years 5" + c, 7);
        }
        for (char c = '0'; c <= '9'; c++) {
            reads("years 0" + (c == '0' ? "1" : "") + c, 1);
        }
    }

    // "STATEMENTS, one or more, with ; between"
    private static void statements() {
        fault("", 0);
        fault(" ", 1);
        fault(";", 0);
        reads("years 5", 1);
        fault("years 5;", 8);
        fault("years 5;   ", 11);
        fault(";years 5", 0);
        fault("years 5 years 5", 8);
        reads(ALL, 6);
        reads("years 1;years 2;years 3;years 4;years 5;years 6;years 7", 7);
        TwoWidths x = new TwoWidths();
        Check.land(x, "change 0 1;change 0 2;coin 0 3;coin 0 4;years 5;years 6");
        C.due("the later one counts", x.change(0, 9) * 100 + x.coin(0, 1) * 10 + x.status(6), 246);
    }

    // A template with # for the NUMBER: it may be low to high, and no other.
    private static void number(String template, int low, int high) {
        int at = template.indexOf('#');
        reads(template.replace("#", String.valueOf(low)), 1);
        reads(template.replace("#", String.valueOf(high)), 1);
        reads(template.replace("#", String.format("%03d", low)), 1);
        reads(template.replace("#", String.format("%03d", high)), 1);
        if (low > 0) {
            fault(template.replace("#", String.valueOf(low - 1)), at);
        }
        fault(template.replace("#", String.valueOf(high + 1)), at);
        fault(template.replace("#", "1000"), at);
        fault(template.replace("#", "9999999999999999999999"), at);
        fault(template.replace("#", String.format("%04d", low)), at);
        fault(template.replace("#", "-1"), at);
        fault(template.replace("#", "x"), at);
        fault(template.replace("#", ";"), at);
        fault(template.replace("#", (char) 200 + "1"), at);
        fault(template.substring(0, at), at);
        fault(template.substring(0, at) + "  ", at + 2);
    }

    // "line A B width N miles N, perhaps bears N, then perhaps owner N (the set as bits, 1 to 7 ..)"
    private static void numbersOfLines() {
        number("line # 5 width 1 miles 1", 0, 11);
        number("line 5 # width 1 miles 1", 0, 11);
        number("line 0 1 width # miles 1", 1, 7);
        number("line 0 1 width 1 miles #", 1, 60);
        number("line 0 1 width 1 miles 1 bears #", 1, 999);
        number("line 0 1 width 1 miles 1 bears # owner 1", 1, 999);
        number("line 0 1 width 1 miles 1 owner #", 0, 5);
        number("line 0 1 width 1 miles 1 bears 1 owner #", 0, 5);
    }

    private static void numbersOfOthers() {
        number("change # 5", 0, 11);
        number("change 5 #", 0, 99);
        number("coin # 5", 0, 2);
        number("coin 1 #", 0, 9);
        number("goods # 5 1", 0, 11);
        number("goods 5 # 1", 0, 11);
        number("goods 0 1 #", 1, 99);
        number("years #", 1, 30);
    }

    // "work K A B N (KIND 1 to 5, a, b, COIN 0 to 999)"
    private static void numbersOfWorks() {
        number("work # 0 1 1", 1, 5);
        number("work 1 # 0 1", 0, 0);
        number("work 1 0 # 1", 0, 2);
        number("work 1 0 0 #", 0, 999);
        number("work 2 # 0 1", 0, 0);
        number("work 2 0 # 1", 0, 2);
        number("work 2 0 0 #", 0, 999);
        number("work 3 # 0 1", 0, 11);
        number("work 3 0 # 1", 0, 99);
        number("work 3 0 0 #", 0, 999);
        number("work 4 # 5 1", 0, 11);
        number("work 4 5 # 1", 0, 11);
        number("work 4 0 1 #", 0, 999);
        number("work 5 # 5 1", 0, 11);
        number("work 5 5 # 1", 0, 11);
        number("work 5 0 1 #", 0, 999);
    }

    // "a NUMBER that may not be, or has more than 3 digits"
    private static void digits() {
        TwoWidths x = new TwoWidths();
        C.due("3 digits", Check.land(x, "line 000 001 width 007 miles 060 bears 999 owner 005"), 1);
        int[] told = {0, 1, 7, 60, 999, 5, 0};
        for (int what = 0; what <= 6; what++) {
            C.due("lineOf " + what, x.lineOf(0, what), told[what]);
        }
        fault("line 0000 1 width 1 miles 1", 5);
        fault("coin 0 0001", 7);
        fault("work 3 0 0 0000", 11);
        // digits enough to come round to a number that may be
        fault("years 4294967301", 6);
        fault("years 18446744073709551621", 6);
    }

    // "999, 0 if not told"
    private static void notTold() {
        TwoWidths x = new TwoWidths();
        Check.land(x, "line 0 1 width 1 miles 1;line 0 1 width 1 miles 1 bears 5;line 0 1 width 1 miles 1 owner 4;"
            + "line 0 1 width 1 miles 1 bears 6 owner 3");
        int[] bears = {999, 5, 999, 6};
        int[] owner = {0, 0, 4, 3};
        for (int line = 0; line < 4; line++) {
            C.due("bears", x.lineOf(line, 4), bears[line]);
            C.due("owner", x.lineOf(line, 5), owner[line]);
        }
    }

    private static void wordsInTheirOrder() {
        fault("line 0 1 miles 1 width 1", 9);
        fault("line 0 1 width 1 width 1", 17);
        fault("line 0 1 width 1 bears 1", 17);
        fault("line 0 1 width 1 miles 1 owner 1 bears 1", 33);
        fault("line 0 1 width 1 miles 1 bears 1 bears 1", 33);
        fault("line 0 1 width 1 miles 1 owner 1 owner 1", 33);
        fault("line 0 1 width 1 miles 1 miles 1", 25);
        fault("line 0 1 1 width 1 miles 1", 9);
        fault("line 0 1 width 1 2 miles 1", 17);
        fault("line 0 1 width 1 miles 1 2", 25);
        fault("line 0 1 ; width 1 miles 1", 9);
        fault("line width 1 miles 1", 5);
        fault("width 1", 0);
        fault("bears 1", 0);
        fault("change 0 1 2", 11);
        fault("coin 0 1 2", 9);
        fault("goods 0 1 2 3", 12);
        fault("work 3 0 0 0 0", 13);
        fault("years 1 1", 8);
        fault("change x 1", 7);
        fault("goods 0 1 years 3", 10);
    }

    // a WORD or the SIGN where a NUMBER is due can't stand there, though it could one TOKEN later
    private static void missingNumbers() {
        fault("line 0 width 1 miles 1", 7);
        fault("line 0 1 width miles 1", 15);
        fault("line 0 1 width 1 miles bears 1", 23);
        fault("line 0 1 width 1 miles owner 1", 23);
        fault("line 0 1 width 1 miles;years 3", 22);
        fault("line 0 1 width 1 miles 1 bears owner 1", 31);
        fault("line 0 1 width 1 miles 1 bears;years 3", 30);
        fault("line 0 1 width 1 miles 1 owner;years 3", 30);
        String[] shorter = {"change 0", "coin 0", "goods 0 1", "work 3 0 0", "years"};
        for (String s : shorter) {
            fault(s + ";years 3", s.length());
            fault(s + " ;years 3", s.length() + 1);
            fault(s + " years 3", s.length() + 1);
        }
    }

    // "B that is A"
    private static void unlikePlaces() {
        for (int p = 0; p < 12; p++) {
            int at = 6 + String.valueOf(p).length();
            fault("line " + p + " " + p + " width 1 miles 1", at);
            fault("goods " + p + " " + p + " 1", at + 1);
            fault("work 4 " + p + " " + p + " 1", at + 2);
            fault("work 5 " + p + " " + p + " 1", at + 2);
            reads("work 3 " + p + " " + p + " 1", 1);
        }
        fault("line 5 05 width 1 miles 1", 7);
        fault("goods 005 5 1", 10);
        reads("work 1 0 0 1;work 2 0 0 1", 2);
    }

    // "what there is no room for: its word"
    private static void room() {
        TwoWidths x = Lands.full();
        C.due("a LINE", Check.land(x, "line 0 1 width 1 miles 1"), -20);
        C.due("a LINE, wrong else, too", Check.land(x, "  line 0 0"), -22);
        C.due("GOODS", Check.land(x, "goods 0 1 1"), -20);
        C.due("GOODS, wrong else, too", Check.land(x, "goods"), -20);
        C.due("a WORK", Check.land(x, "work 3 0 0 1"), -20);
        C.due("a WORK, wrong else, too", Check.land(x, "work 9"), -20);
        C.due("what needs none", Check.land(x, "change 0 1;coin 0 1;years 3"), 3);
    }

    private static void roomAmongStatements() {
        TwoWidths x = Lands.lines(18);
        String line = "line 0 1 width 1 miles 1";
        C.due("the third of three LINES", Check.land(x, line + ";" + line + ";" + line), -20 - 50);
        C.due("none came", x.status(0), 18);
        C.due("two LINES", Check.land(x, line + ";" + line), 2);
        C.due("all LINES", x.status(0), 20);
        TwoWidths y = new TwoWidths();
        String goods = "goods 0 1 1";
        C.due("the ninth GOODS", Check.land(y, (goods + ";").repeat(8) + goods), -20 - 96);
        C.due("none came", y.status(1), 0);
        C.due("eight GOODS", Check.land(y, (goods + ";").repeat(7) + goods), 8);
        String work = "work 3 0 0 1";
        C.due("the eighth WORK", Check.land(y, (work + ";").repeat(7) + work), -20 - 91);
        C.due("none came", y.status(2), 0);
        C.due("seven WORKS", Check.land(y, (work + ";").repeat(6) + work), 7);
        C.due("all WORKS", y.status(2), 7);
    }

    // "of a WORK: a LINE that there isn't then"
    private static void linesThatThereAreThen() {
        TwoWidths x = new TwoWidths();
        C.due("none yet", Check.land(x, "work 1 0 0 1"), -27);
        C.due("told later", Check.land(x, "work 2 0 0 1;line 0 1 width 1 miles 1"), -27);
        C.due("a NEW one is no LINE before it is DONE", Check.land(x, "work 4 0 1 1;work 1 0 0 1"), -40);
        C.due("told ahead", Check.land(x, "line 0 1 width 1 miles 1;work 1 0 0 1"), 2);
        C.due("the next one isn't", Check.land(x, "line 0 1 width 1 miles 1;work 1 2 0 1"), -20 - 32);
        C.due("the next one is", Check.land(x, "line 0 1 width 1 miles 1;work 1 1 0 1"), 2);
        x.washed(0, true);
        C.due("one that is WASHED away is a LINE", Check.land(x, "work 1 0 0 1"), 1);
    }

    // "THE TAPE's size, if it ends too early"
    private static void endsTooEarly() {
        String[] parts = {"line", "0", "1", "width", "1", "miles"};
        StringBuilder text = new StringBuilder();
        for (String part : parts) {
            text.append(part);
            fault(text.toString(), text.length());
            text.append(' ');
            fault(text.toString(), text.length());
        }
        String[] early = {"line 0 1 width 1 miles 1 bears", "line 0 1 width 1 miles 1 owner", "change", "change 0", "coin",
            "coin 0", "goods", "goods 0", "goods 0 1", "work", "work 3", "work 3 0", "work 3 0 0", "years", "years 3;"};
        for (String e : early) {
            fault(e, e.length());
            fault(e + "   ", e.length() + 3);
            fault("years 3;" + e, 8 + e.length());
        }
        TwoWidths x = new TwoWidths();
        C.due("at the greatest size", Check.land(x, " ".repeat(245) + "years"), -270);
        C.due("blanks alone", Check.land(x, " ".repeat(250)), -270);
    }

    // "the first byte of the first TOKEN that can't stand there"
    private static void firstFaultCounts() {
        fault("years 31;years 32;x", 6);
        fault("line 12 12 width 9 miles 99", 5);
        fault("line 3 3 width 9", 7);
        fault("work 7 99 99 9999", 5);
        fault("years 5; years 99", 15);
        fault(" ".repeat(100) + "years" + " ".repeat(100) + "31", 205);
    }

    // "All comes to what there is, or nothing."
    private static void allOrNothing() {
        String[] bad = {";", ";years 31", "x", " 7", ";line 3 3"};
        for (String b : bad) {
            TwoWidths x = new TwoWidths();
            C.due("a FAULT at the end", Check.land(x, ALL + b) < 0);
            C.due("no LINES, GOODS, WORKS", x.status(0) + x.status(1) + x.status(2), 0);
            C.due("YEARS", x.status(6), 10);
            C.due("CHANGE", x.change(4, 0), 9);
            C.due("COIN", x.coin(2, 0), 1);
            C.due("FREE", x.free(), 0);
        }
        TwoWidths y = new TwoWidths();
        C.due("all of it", Check.land(y, ALL), 6);
        C.due("LINES, GOODS, WORKS", y.status(0) * 100 + y.status(1) * 10 + y.status(2), 111);
        C.due("YEARS", y.status(6), 13);
        C.due("CHANGE", y.change(4, 5), 5);
        C.due("COIN", y.coin(2, 6), 6);
        C.due("again: it comes to what there is", Check.land(y, ALL), 6);
        C.due("LINES, GOODS, WORKS", y.status(0) * 100 + y.status(1) * 10 + y.status(2), 222);
    }

    // "THE TAPE is empty then, either way."
    private static void emptyThenEitherWay() {
        TwoWidths x = new TwoWidths();
        Check.feed(x, "years 3");
        C.due("size", x.status(7), 7);
        C.due("read", x.land(), 1);
        C.due("empty", x.status(7), 0);
        C.due("nothing to read", x.land(), -20);
        C.due("the first byte again", x.feed('x', 1), 1);
        C.due("a FAULT", x.land(), -20);
        C.due("empty", x.status(7), 0);
        C.due("wipe of an empty one", x.wipe(), 0);
        Check.feed(x, "years 4");
        C.due("wipe", x.wipe(), 7);
        C.due("empty", x.status(7), 0);
        C.due("nothing to read", x.land(), -20);
        C.due("YEARS", x.status(6), 3);
        C.due("how many were refused", x.status(12), 3);
    }
}
