import java.util.Arrays;

/** Two widths of track. What each call answers is told by the promises of DOC.md, named here by their numbers. */
public final class TwoWidths {
    public static final int NONE = -1;

    private static final int BAD = -2;
    private static final int OTHER = -3;
    private static final int NOTHING = -4;
    private static final int STUCK = -5;
    private static final int FULL = -6;
    // WORTH and GAINS may themselves be small numbers below 0, so their refusals lie far below them.
    private static final int DEEP = -1000000;

    private static final int PLACES = 12;
    private static final int WIDTHS = 3;
    private static final int NODES = PLACES * WIDTHS;
    private static final int ALL_WIDTHS = 7;
    private static final int LINES = 20;
    private static final int GOODS = 8;
    private static final int WORKS = 7;
    private static final int SETS = 1 << WORKS;
    private static final int OWNERS = 6;
    private static final int MOST_MILES = 60;
    private static final int MOST_BEARS = 999;
    private static final int MOST_TONS = 99;
    private static final int MOST_CHANGE = 99;
    private static final int MOST_COIN = 9;
    private static final int MOST_WORK_COIN = 9999;
    private static final int MOST_YEARS = 30;
    private static final int MOST_RUN = 20;
    private static final int WAYLESS = 999;

    // The parts of a LINE, of GOODS and of a WORK stand in the order in which lineOf, goodsOf and workOf tell them.
    private static final int FROM = 0;
    private static final int TO = 1;
    private static final int WIDTH_SET = 2;
    private static final int MILES = 3;
    private static final int BEARS = 4;
    private static final int OWNER = 5;
    private static final int WASHED = 6;
    private static final int LINE_PARTS = 7;
    private static final int TONS = 2;
    private static final int GOODS_PARTS = 3;
    private static final int KIND = 0;
    private static final int A = 1;
    private static final int B = 2;
    private static final int COIN = 3;
    private static final int DONE = 4;
    private static final int WORK_PARTS = 5;

    private static final int ANY_WORK = 0;
    private static final int ALTER = 1;
    private static final int THIRD = 2;
    private static final int LIFT = 3;
    private static final int NEW = 4;
    private static final int DOUBLE = 5;
    // The KIND under which each KIND stands.
    private static final int[] ABOVE = {NONE, ANY_WORK, ALTER, ANY_WORK, ANY_WORK, NEW};

    private final Land state;
    private final Land kept;
    private final Tape tape;
    private final Shelves shelves;
    private final Choice choice;
    private final Traffic traffic;
    private final int[] refused;
    private boolean isKept;
    private int gone;
    private int spent;

    /** Promise 1. */
    public TwoWidths() {
        state = new Land();
        kept = new Land();
        tape = new Tape();
        shelves = new Shelves();
        choice = new Choice();
        traffic = choice.traffic;
        refused = new int[BAD - FULL + 1];
        isKept = false;
        gone = 0;
        spent = 0;
    }

    /** Promise 2. */
    public int row(int s, int sort, int n) {
        if (!Shelves.has(s) || !within(sort, 0, Shelves.SORTS - 1) || !within(n, 0, Shelves.LONGEST)) {
            return refuse(BAD);
        }
        shelves.putRow(s, sort, n);
        return 1;
    }

    /** Promise 3. */
    public int set(int s, int i, long v) {
        int refusal = noRow(s);
        if (refusal != 0) {
            return refuse(refusal);
        }
        if (!within(i, 0, shelves.sizes[s] - 1)) {
            return refuse(BAD);
        }
        shelves.put(s, i, v);
        return 1;
    }

    /** Promise 4. */
    public int copy(int p, int q, int i, int j, int n) {
        if (!Shelves.has(p) || !Shelves.has(q)) {
            return refuse(BAD);
        }
        if (shelves.hasWork(p) || shelves.hasWork(q) || shelves.differ(p, q)) {
            return refuse(OTHER);
        }
        if (shelves.held[p] == NONE || shelves.held[q] == NONE) {
            return refuse(NOTHING);
        }
        if (!within(n, 0, Shelves.LONGEST)
            || !within(i, 0, shelves.sizes[p] - n) || !within(j, 0, shelves.sizes[q] - n)) {
            return refuse(BAD);
        }
        System.arraycopy(shelves.elements[p], i, shelves.elements[q], j, n);
        return n;
    }

    /** Promise 5. */
    public long element(int s, int i) {
        if (!Shelves.has(s) || !shelves.hasRow(s) || !within(i, 0, shelves.sizes[s] - 1)) {
            return 0;
        }
        return shelves.elements[s][i];
    }

    /** Promise 6. */
    public int holds(int s) {
        return Shelves.has(s) ? shelves.held[s] : NONE;
    }

    /** Promise 7. */
    public int show(int s, int work) {
        if (!Shelves.has(s) || work != NONE && !state.hasWork(work)) {
            return refuse(BAD);
        }
        shelves.held[s] = work == NONE ? NONE : Shelves.WORK + work;
        return 1;
    }

    /** Promise 8. */
    public int says(int s, int kind) {
        if (!Shelves.has(s) || !within(kind, ANY_WORK, DOUBLE)) {
            return refuse(BAD);
        }
        int work = shelves.workIn(s);
        if (shelves.hasRow(s) || state.hasWork(work) && !isUnder(state.ofWork(work, KIND), kind)) {
            return refuse(OTHER);
        }
        if (!state.hasWork(work)) {
            return refuse(NOTHING);
        }
        switch (kind) {
            case ANY_WORK:
                return state.ofWork(work, COIN);
            case NEW:
            case DOUBLE:
                return 100 * state.ofWork(work, A) + state.ofWork(work, B);
            default:
                return state.ofWork(work, A);
        }
    }

    /** Promise 9. */
    public int line(int from, int to, int widths, int miles, int bears, int owner) {
        if (!isPlace(from) || !isPlace(to) || from == to || !within(widths, 1, ALL_WIDTHS)
            || !within(miles, 1, MOST_MILES) || !within(bears, 1, MOST_BEARS) || !within(owner, 0, OWNERS - 1)) {
            return refuse(BAD);
        }
        if (state.lineCount >= LINES) {
            return refuse(FULL);
        }
        state.addLine(from, to, widths, miles, bears, owner);
        return state.lineCount - 1;
    }

    /** Promise 10. */
    public int goods(int from, int to, int tons) {
        if (!isPlace(from) || !isPlace(to) || from == to || !within(tons, 1, MOST_TONS)) {
            return refuse(BAD);
        }
        if (state.goodsCount >= GOODS) {
            return refuse(FULL);
        }
        state.addGoods(from, to, tons);
        return state.goodsCount - 1;
    }

    /** Promise 11. */
    public int work(int kind, int a, int b, int coin) {
        if (!state.allowsWork(kind, a, b) || !within(coin, 0, MOST_WORK_COIN)) {
            return refuse(BAD);
        }
        if (state.workCount >= WORKS) {
            return refuse(FULL);
        }
        state.addWork(kind, a, b, coin);
        return state.workCount - 1;
    }

    /** Promise 12. */
    public int change(int place, int v) {
        if (!isPlace(place) || !within(v, 0, MOST_CHANGE)) {
            return refuse(BAD);
        }
        int was = state.change[place];
        state.putChange(place, v);
        return was;
    }

    /** Promise 13. */
    public int coin(int width, int v) {
        if (!within(width, 0, WIDTHS - 1) || !within(v, 0, MOST_COIN)) {
            return refuse(BAD);
        }
        int was = state.coin[width];
        state.putCoin(width, v);
        return was;
    }

    /** Promise 14. */
    public int years(int v) {
        if (!within(v, 1, MOST_YEARS)) {
            return refuse(BAD);
        }
        int was = state.years;
        state.years = v;
        return was;
    }

    /** Promise 15. */
    public int washed(int line, boolean is) {
        if (!state.hasLine(line)) {
            return refuse(BAD);
        }
        int wanted = is ? 1 : 0;
        if (state.ofLine(line, WASHED) == wanted) {
            return 0;
        }
        state.putWashed(line, wanted);
        return 1;
    }

    /** Promise 16. */
    public int feed(int v, int n) {
        if (!within(n, 1, 4)) {
            return refuse(BAD);
        }
        if (tape.size + n > Tape.LONGEST) {
            return refuse(FULL);
        }
        for (int left = n - 1; left >= 0; left--) {
            tape.put(v >> 8 * left & 255);
        }
        return tape.size;
    }

    /** Promise 17. */
    public int wipe() {
        int was = tape.size;
        tape.size = 0;
        return was;
    }

    /** Promise 18. */
    public int land() {
        Land then = choice.after;
        then.take(state);
        int told = tape.readInto(then);
        tape.size = 0;
        if (told < 0) {
            refuse(BAD);
            return told;
        }
        state.take(then);
        return told;
    }

    /** Promise 19. */
    public int lineOf(int line, int what) {
        if (!state.hasLine(line) || !within(what, 0, LINE_PARTS - 1)) {
            return refuse(BAD);
        }
        return state.ofLine(line, what);
    }

    /** Promise 20. */
    public int goodsOf(int goods, int what) {
        if (!state.hasGoods(goods) || !within(what, 0, GOODS_PARTS - 1)) {
            return refuse(BAD);
        }
        return state.ofGoods(goods, what);
    }

    /** Promise 21. */
    public int workOf(int work, int what) {
        if (!state.hasWork(work) || !within(what, 0, WORK_PARTS - 1)) {
            return refuse(BAD);
        }
        return state.ofWork(work, what);
    }

    /** Promise 22. */
    public int cheapest(int from, int to) {
        if (!isPlace(from) || !isPlace(to)) {
            return refuse(BAD);
        }
        if (from == to) {
            return 0;
        }
        int cost = traffic.costBetween(state, from, to);
        return cost == NONE ? refuse(STUCK) : cost;
    }

    /** Promise 23. */
    public int way(int goods, int what) {
        boolean asksLine = within(what, 10, 10 + NODES);
        if (!state.hasGoods(goods) || !within(what, 0, 3) && !asksLine) {
            return refuse(BAD);
        }
        Ways ways = traffic.ways;
        ways.prepare(state, state.linesThere());
        if (!ways.trace(state.ofGoods(goods, FROM), state.ofGoods(goods, TO))) {
            return refuse(STUCK);
        }
        if (asksLine) {
            int line = ways.lineAt(what - 10);
            return line == NONE ? refuse(BAD) : line;
        }
        switch (what) {
            case 0:
                return ways.linesOnWay();
            case 1:
                return ways.changesOnWay();
            case 2:
                return ways.widthAfter(0);
            default:
                return ways.widthAfter(ways.stepCount - 1);
        }
    }

    /** Promise 24. */
    public int free() {
        return choice.freeWith(state, 0);
    }

    /** Promise 25. */
    public int turn(int what) {
        boolean asksLine = within(what, 10, 10 + state.lineCount - 1);
        if (!within(what, 0, 1) && !asksLine) {
            return refuse(BAD);
        }
        traffic.sendInTurn(state);
        if (asksLine) {
            return traffic.left[what - 10];
        }
        return what == 0 ? traffic.turnCost : traffic.turnWayless;
    }

    /** Promise 26. */
    public int total(int set) {
        if (!within(set, 0, (1 << state.workCount) - 1)) {
            return refuse(BAD);
        }
        return choice.totalOf(state, set);
    }

    /** Promise 27. */
    public int best() {
        return choice.bestOf(state);
    }

    /** Promise 28. */
    public int worth(int work) {
        int refusal = noChoice(work);
        if (refusal != 0) {
            return DEEP + refuse(refusal);
        }
        return choice.worthIn(state, work, state.years);
    }

    /** Promise 29. */
    public int first() {
        return choice.firstOf(state);
    }

    /** Promise 30. */
    public int greedy() {
        return choice.greedyOf(state);
    }

    /** Promise 31. */
    public int gap() {
        return choice.totalOf(state, choice.greedyOf(state)) - choice.totalOf(state, choice.bestOf(state));
    }

    /** Promise 32. */
    public int edge(int work) {
        int refusal = noChoice(work);
        if (refusal != 0) {
            return refuse(refusal);
        }
        for (int n = 1; n <= MOST_YEARS; n++) {
            if (choice.worthIn(state, work, n) > 0) {
                return n;
            }
        }
        return NONE;
    }

    /** Promise 33. */
    public int never() {
        return choice.neverOf(state);
    }

    /** Promise 34. */
    public int one(int w, int v) {
        if (!within(w, 0, WIDTHS - 1) || !within(v, 0, 99)) {
            return refuse(BAD);
        }
        return choice.costOfWidth(state, w, v);
    }

    /** Promise 35. */
    public int which(int v) {
        if (!within(v, 0, 99)) {
            return refuse(BAD);
        }
        int least = 0;
        int leastCost = choice.costOfWidth(state, 0, v);
        for (int w = 1; w < WIDTHS; w++) {
            int cost = choice.costOfWidth(state, w, v);
            if (cost < leastCost) {
                least = w;
                leastCost = cost;
            }
        }
        return least;
    }

    /** Promise 36. */
    public int earns(int owner) {
        if (!within(owner, 0, OWNERS - 1)) {
            return refuse(BAD);
        }
        traffic.earn(state, traffic.earned);
        return traffic.earned[owner];
    }

    /** Promise 37. */
    public int gains(int owner, int work) {
        int refusal = within(owner, 0, OWNERS - 1) ? noChoice(work) : BAD;
        if (refusal != 0) {
            return DEEP + refuse(refusal);
        }
        choice.gainBy(state, work);
        return choice.gained[owner];
    }

    /** Promise 38. */
    public int losers(int work) {
        int refusal = noChoice(work);
        if (refusal != 0) {
            return refuse(refusal);
        }
        choice.gainBy(state, work);
        int bits = 0;
        for (int owner = 0; owner < OWNERS; owner++) {
            if (choice.gained[owner] < 0) {
                bits |= 1 << owner;
            }
        }
        return bits;
    }

    /** Promise 39. */
    public int port(int place, boolean changed) {
        if (!isPlace(place)) {
            return refuse(BAD);
        }
        return traffic.tonsAt(state, place, changed);
    }

    /** Promise 40. */
    public int hangs() {
        int line = traffic.dearestLoss(state);
        return line == NONE ? refuse(STUCK) : line;
    }

    /** Promise 41. */
    public int plan(int s, int n) {
        int refusal = noPlan(s, n);
        if (refusal != 0) {
            return refuse(refusal);
        }
        if (choice.wrongAt(state, shelves.elements[s], n) != NONE) {
            return refuse(STUCK);
        }
        return choice.costOfPlan(state, shelves.elements[s], n);
    }

    /** Promise 42. */
    public int judge(int s, int n) {
        int refusal = noPlan(s, n);
        if (refusal != 0) {
            return refuse(refusal);
        }
        return choice.wrongAt(state, shelves.elements[s], n);
    }

    /** Promise 43. */
    public int year(int work) {
        int refusal = work == NONE ? 0 : noChoice(work);
        if (refusal != 0) {
            return refuse(refusal);
        }
        return passYear(work);
    }

    /** Promise 44. */
    public int run(int n) {
        if (!within(n, 1, MOST_RUN)) {
            return refuse(BAD);
        }
        int cost = 0;
        for (int i = 0; i < n; i++) {
            cost += passYear(choice.firstOf(state));
        }
        return cost;
    }

    /** Promise 45. */
    public int image() {
        kept.take(state);
        isKept = true;
        return 1;
    }

    /** Promise 46. */
    public int back() {
        if (!isKept) {
            return refuse(STUCK);
        }
        state.take(kept);
        shelves.dropWorksFrom(state.workCount);
        return 1;
    }

    /** Promise 47. */
    public int status(int what) {
        switch (what) {
            case 0:
                return state.lineCount;
            case 1:
                return state.goodsCount;
            case 2:
                return state.workCount;
            case 3:
                return Integer.bitCount(state.doneWorks());
            case 4:
                return gone;
            case 5:
                return spent;
            case 6:
                return state.years;
            case 7:
                return tape.size;
            case 8:
                return shelves.inUse();
            default:
                return within(what, 12, 16) ? refused[what - 12] : NONE;
        }
    }

    private int refuse(int refusal) {
        if (within(refusal, FULL, BAD)) {
            refused[BAD - refusal]++;
        }
        return refusal;
    }

    // 0: SHELF s holds a ROW.
    private int noRow(int s) {
        if (!Shelves.has(s)) {
            return BAD;
        }
        if (shelves.hasWork(s)) {
            return OTHER;
        }
        return shelves.hasRow(s) ? 0 : NOTHING;
    }

    // 0: the ROW in SHELF s has n elements for a PLAN.
    private int noPlan(int s, int n) {
        if (!within(n, 0, MOST_YEARS)) {
            return BAD;
        }
        int refusal = noRow(s);
        if (refusal != 0) {
            return refusal;
        }
        return shelves.sizes[s] < n ? BAD : 0;
    }

    // 0: the WORK is there and may still be chosen.
    private int noChoice(int work) {
        if (!state.hasWork(work)) {
            return BAD;
        }
        return state.isDone(work) ? STUCK : 0;
    }

    private int passYear(int work) {
        int cost = choice.costOfYear(state, work);
        gone++;
        spent += cost;
        return cost;
    }

    private static boolean within(int v, int low, int high) {
        return v >= low && v <= high;
    }

    private static boolean isPlace(int place) {
        return within(place, 0, PLACES - 1);
    }

    private static boolean isUnder(int kind, int wanted) {
        int at = kind;
        for (int level = 0; level < ABOVE.length && within(at, ANY_WORK, DOUBLE); level++) {
            if (at == wanted) {
                return true;
            }
            at = ABOVE[at];
        }
        return false;
    }

    /** The LINES, GOODS and WORKS with what they cost; the same class serves for trials. */
    private static final class Land {
        int lineCount;
        int goodsCount;
        int workCount;
        int years;
        final int[] lines;
        final int[] goods;
        final int[] works;
        final int[] change;
        final int[] coin;
        // FREE by sets of WORKS costs much to find and is asked for again and again.
        private final int[] knownFree;
        private boolean isKnown;

        Land() {
            lines = new int[LINES * LINE_PARTS];
            goods = new int[GOODS * GOODS_PARTS];
            works = new int[WORKS * WORK_PARTS];
            change = new int[PLACES];
            coin = new int[WIDTHS];
            knownFree = new int[SETS];
            lineCount = 0;
            goodsCount = 0;
            workCount = 0;
            years = 10;
            isKnown = false;
            Arrays.fill(change, 9);
            Arrays.fill(coin, 1);
        }

        void take(Land other) {
            lineCount = other.lineCount;
            goodsCount = other.goodsCount;
            workCount = other.workCount;
            years = other.years;
            System.arraycopy(other.lines, 0, lines, 0, lineCount * LINE_PARTS);
            System.arraycopy(other.goods, 0, goods, 0, goodsCount * GOODS_PARTS);
            System.arraycopy(other.works, 0, works, 0, workCount * WORK_PARTS);
            System.arraycopy(other.change, 0, change, 0, PLACES);
            System.arraycopy(other.coin, 0, coin, 0, WIDTHS);
            isKnown = false;
        }

        boolean hasLine(int line) {
            return within(line, 0, lineCount - 1);
        }

        boolean hasGoods(int number) {
            return within(number, 0, goodsCount - 1);
        }

        boolean hasWork(int work) {
            return within(work, 0, workCount - 1);
        }

        int ofLine(int line, int what) {
            return lines[line * LINE_PARTS + what];
        }

        int ofGoods(int number, int what) {
            return goods[number * GOODS_PARTS + what];
        }

        int ofWork(int work, int what) {
            return works[work * WORK_PARTS + what];
        }

        boolean isDone(int work) {
            return ofWork(work, DONE) != 0;
        }

        int doneWorks() {
            int bits = 0;
            for (int work = 0; work < workCount; work++) {
                if (isDone(work)) {
                    bits |= 1 << work;
                }
            }
            return bits;
        }

        int linesThere() {
            int bits = 0;
            for (int line = 0; line < lineCount; line++) {
                if (ofLine(line, WASHED) == 0) {
                    bits |= 1 << line;
                }
            }
            return bits;
        }

        void addLine(int from, int to, int widths, int miles, int bears, int owner) {
            if (lineCount >= LINES) {
                return;
            }
            int at = lineCount * LINE_PARTS;
            lines[at + FROM] = from;
            lines[at + TO] = to;
            lines[at + WIDTH_SET] = widths;
            lines[at + MILES] = miles;
            lines[at + BEARS] = bears;
            lines[at + OWNER] = owner;
            lines[at + WASHED] = 0;
            lineCount++;
            isKnown = false;
        }

        void addGoods(int from, int to, int tons) {
            if (goodsCount >= GOODS) {
                return;
            }
            int at = goodsCount * GOODS_PARTS;
            goods[at + FROM] = from;
            goods[at + TO] = to;
            goods[at + TONS] = tons;
            goodsCount++;
            isKnown = false;
        }

        void addWork(int kind, int a, int b, int coins) {
            if (workCount >= WORKS) {
                return;
            }
            int at = workCount * WORK_PARTS;
            works[at + KIND] = kind;
            works[at + A] = a;
            works[at + B] = b;
            works[at + COIN] = coins;
            works[at + DONE] = 0;
            workCount++;
            isKnown = false;
        }

        void putChange(int place, int v) {
            if (place >= 0 && place < PLACES) {
                change[place] = v;
                isKnown = false;
            }
        }

        void putCoin(int width, int v) {
            if (width >= 0 && width < WIDTHS) {
                coin[width] = v;
                isKnown = false;
            }
        }

        void putWashed(int line, int v) {
            if (line >= 0 && line < lineCount) {
                lines[line * LINE_PARTS + WASHED] = v;
                isKnown = false;
            }
        }

        void putWidths(int line, int widths) {
            if (line >= 0 && line < lineCount) {
                lines[line * LINE_PARTS + WIDTH_SET] = widths;
                isKnown = false;
            }
        }

        // The greatest a and b that a WORK of a KIND may have now; the least is 0.
        int greatestA(int kind) {
            return kind == ALTER || kind == THIRD ? lineCount - 1 : PLACES - 1;
        }

        int greatestB(int kind) {
            if (kind == ALTER || kind == THIRD) {
                return WIDTHS - 1;
            }
            return kind == LIFT ? MOST_CHANGE : PLACES - 1;
        }

        boolean allowsWork(int kind, int a, int b) {
            if (!within(kind, ALTER, DOUBLE) || isUnder(kind, NEW) && a == b) {
                return false;
            }
            return within(a, 0, greatestA(kind)) && within(b, 0, greatestB(kind));
        }

        void perform(int work) {
            if (!hasWork(work)) {
                return;
            }
            int a = ofWork(work, A);
            int b = ofWork(work, B);
            switch (ofWork(work, KIND)) {
                case ALTER:
                    putWidths(a, 1 << b);
                    break;
                case THIRD:
                    if (hasLine(a)) {
                        putWidths(a, ofLine(a, WIDTH_SET) | 1 << b);
                    }
                    break;
                case LIFT:
                    putChange(a, b);
                    break;
                case NEW:
                    addLine(a, b, ALL_WIDTHS, 10, 99, 0);
                    break;
                case DOUBLE:
                    addLine(a, b, ALL_WIDTHS, 10, 198, 0);
                    break;
                default:
                    break;
            }
        }

        void performForGood(int work) {
            if (hasWork(work)) {
                perform(work);
                works[work * WORK_PARTS + DONE] = 1;
                isKnown = false;
            }
        }

        // NONE: not known yet.
        int freeKnown(int set) {
            if (!isKnown) {
                Arrays.fill(knownFree, NONE);
                isKnown = true;
            }
            return within(set, 0, SETS - 1) ? knownFree[set] : NONE;
        }

        void keepFree(int set, int v) {
            if (within(set, 0, SETS - 1)) {
                knownFree[set] = v;
            }
        }
    }

    /** SHELVES: what each holds stands in held as holds() tells it. */
    private static final class Shelves {
        static final int COUNT = 8;
        static final int LONGEST = 40;
        static final int SORTS = 5;
        static final int WORK = 10;
        final long[][] elements;
        final int[] held;
        final int[] sizes;

        Shelves() {
            elements = new long[COUNT][LONGEST];
            held = new int[COUNT];
            sizes = new int[COUNT];
            Arrays.fill(held, NONE);
        }

        static boolean has(int s) {
            return within(s, 0, COUNT - 1);
        }

        boolean hasRow(int s) {
            return within(held[s], 0, SORTS - 1);
        }

        boolean hasWork(int s) {
            return held[s] >= WORK;
        }

        boolean differ(int p, int q) {
            return held[p] != NONE && held[q] != NONE && held[p] != held[q];
        }

        int workIn(int s) {
            return hasWork(s) ? held[s] - WORK : NONE;
        }

        void putRow(int s, int sort, int n) {
            held[s] = sort;
            sizes[s] = n;
            Arrays.fill(elements[s], 0L);
        }

        void put(int s, int i, long v) {
            elements[s][i] = fitted(held[s], v);
        }

        private static long fitted(int sort, long v) {
            switch (sort) {
                case 0:
                    return (byte) v;
                case 1:
                    return (short) v;
                case 2:
                    return (int) v;
                case 3:
                    return v;
                default:
                    return v != 0 ? 1 : 0;
            }
        }

        void dropWorksFrom(int work) {
            for (int s = 0; s < COUNT; s++) {
                if (workIn(s) >= work) {
                    held[s] = NONE;
                }
            }
        }

        int inUse() {
            int count = 0;
            for (int s = 0; s < COUNT; s++) {
                if (held[s] != NONE) {
                    count++;
                }
            }
            return count;
        }
    }

    /** THE TAPE and its reading. When a reading fails, the TOKEN at which it stands is the FAULT. */
    private static final class Tape {
        static final int LONGEST = 250;
        private static final int MOST_DIGITS = 3;
        private static final int MOST_TAPE_COIN = 999;
        private static final int FAULTS = -20;
        private static final int END = 0;
        private static final int WORD = 1;
        private static final int NUMBER = 2;
        private static final int SIGN = 3;
        private static final int ALIEN = 4;
        private final int[] bytes;
        int size;
        private int start;
        private int end;
        private int token;
        private int value;

        Tape() {
            bytes = new int[LONGEST];
            size = 0;
        }

        void put(int v) {
            if (size < LONGEST) {
                bytes[size] = v;
                size++;
            }
        }

        // How many STATEMENTS came to the land; below 0: the FAULT, and the land is spoilt.
        int readInto(Land then) {
            end = 0;
            next();
            for (int told = 1; told <= LONGEST; told++) {
                if (!readStatement(then)) {
                    return FAULTS - start;
                }
                if (token == END) {
                    return told;
                }
                if (token != SIGN) {
                    return FAULTS - start;
                }
                next();
            }
            return FAULTS - start;
        }

        private boolean readStatement(Land then) {
            if (isWord("line")) {
                return then.lineCount < LINES && readLine(then);
            }
            if (isWord("goods")) {
                return then.goodsCount < GOODS && readGoods(then);
            }
            if (isWord("work")) {
                return then.workCount < WORKS && readWork(then);
            }
            if (isWord("change")) {
                return readChange(then);
            }
            if (isWord("coin")) {
                return readCoin(then);
            }
            return isWord("years") && readYears(then);
        }

        private boolean readLine(Land then) {
            next();
            int from = number(0, PLACES - 1);
            int to = from == NONE ? NONE : numberUnlike(from, PLACES - 1);
            if (to == NONE || !isWord("width")) {
                return false;
            }
            next();
            int widths = number(1, ALL_WIDTHS);
            if (widths == NONE || !isWord("miles")) {
                return false;
            }
            next();
            int miles = number(1, MOST_MILES);
            if (miles == NONE) {
                return false;
            }
            int bears = perhaps("bears", 1, MOST_BEARS, MOST_BEARS);
            int owner = bears == NONE ? NONE : perhaps("owner", 0, OWNERS - 1, 0);
            if (owner == NONE) {
                return false;
            }
            then.addLine(from, to, widths, miles, bears, owner);
            return true;
        }

        private boolean readGoods(Land then) {
            next();
            int from = number(0, PLACES - 1);
            int to = from == NONE ? NONE : numberUnlike(from, PLACES - 1);
            int tons = to == NONE ? NONE : number(1, MOST_TONS);
            if (tons == NONE) {
                return false;
            }
            then.addGoods(from, to, tons);
            return true;
        }

        private boolean readWork(Land then) {
            next();
            int kind = number(ALTER, DOUBLE);
            int a = kind == NONE ? NONE : number(0, then.greatestA(kind));
            if (a == NONE) {
                return false;
            }
            int greatest = then.greatestB(kind);
            int b = isUnder(kind, NEW) ? numberUnlike(a, greatest) : number(0, greatest);
            int coins = b == NONE ? NONE : number(0, MOST_TAPE_COIN);
            if (coins == NONE) {
                return false;
            }
            then.addWork(kind, a, b, coins);
            return true;
        }

        private boolean readChange(Land then) {
            next();
            int place = number(0, PLACES - 1);
            int v = place == NONE ? NONE : number(0, MOST_CHANGE);
            if (v == NONE) {
                return false;
            }
            then.putChange(place, v);
            return true;
        }

        private boolean readCoin(Land then) {
            next();
            int width = number(0, WIDTHS - 1);
            int v = width == NONE ? NONE : number(0, MOST_COIN);
            if (v == NONE) {
                return false;
            }
            then.putCoin(width, v);
            return true;
        }

        private boolean readYears(Land then) {
            next();
            int v = number(1, MOST_YEARS);
            if (v == NONE) {
                return false;
            }
            then.years = v;
            return true;
        }

        // The NUMBER that stands here, which is left behind then; NONE: none that may be.
        private int number(int low, int high) {
            if (token != NUMBER || !within(value, low, high)) {
                return NONE;
            }
            int v = value;
            next();
            return v;
        }

        private int numberUnlike(int other, int high) {
            return token == NUMBER && value == other ? NONE : number(0, high);
        }

        private int perhaps(String word, int low, int high, int untold) {
            if (!isWord(word)) {
                return untold;
            }
            next();
            return number(low, high);
        }

        private boolean isWord(String word) {
            if (token != WORD || end - start != word.length()) {
                return false;
            }
            for (int i = 0; i < word.length(); i++) {
                if (bytes[start + i] != word.charAt(i)) {
                    return false;
                }
            }
            return true;
        }

        private void next() {
            int at = end;
            while (at < size && bytes[at] == ' ') {
                at++;
            }
            start = at;
            token = tokenAt(at);
            if (token != END) {
                at++;
            }
            if (token == WORD || token == NUMBER) {
                while (at < size && tokenAt(at) == token) {
                    at++;
                }
            }
            end = at;
            value = token == NUMBER ? valueHere() : NONE;
        }

        private int tokenAt(int at) {
            if (at >= size) {
                return END;
            }
            int sign = bytes[at];
            if (sign >= 'a' && sign <= 'z') {
                return WORD;
            }
            if (sign >= '0' && sign <= '9') {
                return NUMBER;
            }
            return sign == ';' ? SIGN : ALIEN;
        }

        private int valueHere() {
            if (end - start > MOST_DIGITS) {
                return NONE;
            }
            int v = 0;
            for (int at = start; at < end; at++) {
                v = 10 * v + bytes[at] - '0';
            }
            return v;
        }
    }

    /** WAYS over nodes, a node being a PLACE in a WIDTH, and edges, an edge being a LINE in a WIDTH. */
    private static final class Ways {
        private static final int FAR = 1000000;
        private final int[] edgeA;
        private final int[] edgeB;
        private final int[] edgeCost;
        private final int[] edgeLine;
        private final int[] change;
        // What each node is away from the aim.
        private final int[] away;
        private final int[] steps;
        private final int[] nodes;
        int stepCount;
        private final int[] open;
        private int openCount;
        private long seen;
        private int edgeCount;
        private int aim;

        Ways() {
            edgeA = new int[LINES * WIDTHS];
            edgeB = new int[LINES * WIDTHS];
            edgeCost = new int[LINES * WIDTHS];
            edgeLine = new int[LINES * WIDTHS];
            change = new int[PLACES];
            away = new int[NODES];
            steps = new int[NODES];
            nodes = new int[NODES];
            open = new int[NODES];
            aim = NONE;
        }

        // The edges stand by numbers of LINES: the order in which THE WAY tries them.
        void prepare(Land over, int usable) {
            System.arraycopy(over.change, 0, change, 0, PLACES);
            aim = NONE;
            edgeCount = 0;
            for (int line = 0; line < over.lineCount; line++) {
                int widths = (usable >> line & 1) != 0 ? over.ofLine(line, WIDTH_SET) : 0;
                for (int w = 0; w < WIDTHS; w++) {
                    if ((widths >> w & 1) != 0) {
                        edgeA[edgeCount] = over.ofLine(line, FROM) * WIDTHS + w;
                        edgeB[edgeCount] = over.ofLine(line, TO) * WIDTHS + w;
                        edgeCost[edgeCount] = over.ofLine(line, MILES) * over.coin[w];
                        edgeLine[edgeCount] = line;
                        edgeCount++;
                    }
                }
            }
        }

        // A WAY costs the same there and back, so that what is away from its end serves all GOODS that go there.
        void aimAt(int to) {
            if (aim == to) {
                return;
            }
            aim = to;
            Arrays.fill(away, FAR);
            for (int w = 0; w < WIDTHS; w++) {
                away[to * WIDTHS + w] = 0;
            }
            for (int pass = 0; pass < NODES && nearByLines(); pass++) {
                nearByChanges();
            }
        }

        private boolean nearByLines() {
            boolean nearer = false;
            for (int e = 0; e < edgeCount; e++) {
                int a = edgeA[e];
                int b = edgeB[e];
                int cost = edgeCost[e];
                if (away[a] + cost < away[b]) {
                    away[b] = away[a] + cost;
                    nearer = true;
                } else if (away[b] + cost < away[a]) {
                    away[a] = away[b] + cost;
                    nearer = true;
                }
            }
            return nearer;
        }

        private void nearByChanges() {
            for (int place = 0; place < PLACES; place++) {
                int at = place * WIDTHS;
                int least = away[at];
                for (int w = 1; w < WIDTHS; w++) {
                    if (away[at + w] < least) {
                        least = away[at + w];
                    }
                }
                int changed = least + change[place];
                for (int w = 0; w < WIDTHS; w++) {
                    if (changed < away[at + w]) {
                        away[at + w] = changed;
                    }
                }
            }
        }

        // CHEAPEST from a PLACE to the aim; NONE: no WAY.
        int costFrom(int from) {
            int least = FAR;
            for (int w = 0; w < WIDTHS; w++) {
                if (away[from * WIDTHS + w] < least) {
                    least = away[from * WIDTHS + w];
                }
            }
            return least < FAR ? least : NONE;
        }

        // THE WAY comes to stand in steps, with the node after each step in nodes.
        boolean trace(int from, int to) {
            stepCount = 0;
            aimAt(to);
            int cost = costFrom(from);
            if (cost == NONE) {
                return false;
            }
            int width = 0;
            while (width < WIDTHS - 1 && away[from * WIDTHS + width] != cost) {
                width++;
            }
            int node = from * WIDTHS + width;
            note(width, node);
            long met = 1L << node;
            for (int step = 1; step < NODES && node / WIDTHS != to; step++) {
                node = stepOn(node, met);
                if (node == NONE) {
                    return false;
                }
                met |= 1L << node;
            }
            return node / WIDTHS == to;
        }

        private void note(int step, int node) {
            if (stepCount < NODES) {
                steps[stepCount] = step;
                nodes[stepCount] = node;
                stepCount++;
            }
        }

        private int stepOn(int node, long met) {
            int place = node / WIDTHS;
            for (int w = 0; w < WIDTHS; w++) {
                int next = place * WIDTHS + w;
                if (leads(node, next, change[place], met)) {
                    note(w, next);
                    return next;
                }
            }
            for (int e = 0; e < edgeCount; e++) {
                int next = otherEnd(e, node);
                if (next != NONE && leads(node, next, edgeCost[e], met)) {
                    note(WIDTHS + edgeLine[e], next);
                    return next;
                }
            }
            return NONE;
        }

        private int otherEnd(int e, int node) {
            if (edgeA[e] == node) {
                return edgeB[e];
            }
            return edgeB[e] == node ? edgeA[e] : NONE;
        }

        // Nodes already met are no nearer than this one, so only a step that costs nothing can run into them later.
        private boolean leads(int node, int next, int cost, long met) {
            if ((met >> next & 1) != 0 || away[node] != cost + away[next]) {
                return false;
            }
            return cost > 0 || arrives(next, met);
        }

        private boolean arrives(int from, long met) {
            seen = met | 1L << from;
            open[0] = from;
            openCount = 1;
            for (int taken = 0; taken < NODES && openCount > 0; taken++) {
                openCount--;
                int node = open[openCount];
                int place = node / WIDTHS;
                if (place == aim) {
                    return true;
                }
                for (int w = 0; w < WIDTHS; w++) {
                    openIfCheapest(node, place * WIDTHS + w, change[place]);
                }
                for (int e = 0; e < edgeCount; e++) {
                    int next = otherEnd(e, node);
                    if (next != NONE) {
                        openIfCheapest(node, next, edgeCost[e]);
                    }
                }
            }
            return false;
        }

        private void openIfCheapest(int node, int next, int cost) {
            boolean isNew = (seen >> next & 1) == 0 && openCount < NODES;
            if (isNew && away[node] == cost + away[next]) {
                seen |= 1L << next;
                open[openCount] = next;
                openCount++;
            }
        }

        // The first step is the WIDTH at the beginning: no change, and no LINE.
        boolean isChange(int step) {
            return within(step, 1, stepCount - 1) && steps[step] < WIDTHS;
        }

        // NONE: the step is no LINE.
        int lineOn(int step) {
            return within(step, 1, stepCount - 1) && steps[step] >= WIDTHS ? steps[step] - WIDTHS : NONE;
        }

        int placeAfter(int step) {
            return within(step, 0, stepCount - 1) ? nodes[step] / WIDTHS : NONE;
        }

        int widthAfter(int step) {
            return within(step, 0, stepCount - 1) ? nodes[step] % WIDTHS : NONE;
        }

        int changesOnWay() {
            int count = 0;
            for (int step = 1; step < stepCount; step++) {
                if (isChange(step)) {
                    count++;
                }
            }
            return count;
        }

        int linesOnWay() {
            return Math.max(0, stepCount - 1 - changesOnWay());
        }

        // NONE: THE WAY has not so many LINES.
        int lineAt(int i) {
            int count = 0;
            for (int step = 1; step < stepCount; step++) {
                int line = lineOn(step);
                if (line != NONE) {
                    if (count == i) {
                        return line;
                    }
                    count++;
                }
            }
            return NONE;
        }
    }

    /** All GOODS on their WAYS. */
    private static final class Traffic {
        final Ways ways;
        final int[] left;
        final int[] earned;
        int turnCost;
        int turnWayless;

        Traffic() {
            ways = new Ways();
            left = new int[LINES];
            earned = new int[OWNERS];
        }

        int costBetween(Land over, int from, int to) {
            ways.prepare(over, over.linesThere());
            ways.aimAt(to);
            return ways.costFrom(from);
        }

        // FREE by some of the LINES; GOODS to one PLACE come together, so that WAYS aim at it once.
        int freeBy(Land over, int usable) {
            ways.prepare(over, usable);
            int sum = 0;
            for (int place = 0; place < PLACES; place++) {
                for (int g = 0; g < over.goodsCount; g++) {
                    if (over.ofGoods(g, TO) == place) {
                        ways.aimAt(place);
                        int cost = ways.costFrom(over.ofGoods(g, FROM));
                        sum += over.ofGoods(g, TONS) * (cost == NONE ? WAYLESS : cost);
                    }
                }
            }
            return sum;
        }

        // IN TURN: what it costs, what goes nowhere and what each LINE has left are kept to be asked for.
        void sendInTurn(Land over) {
            turnCost = 0;
            turnWayless = 0;
            for (int line = 0; line < over.lineCount; line++) {
                left[line] = over.ofLine(line, BEARS);
            }
            for (int g = 0; g < over.goodsCount; g++) {
                int tons = over.ofGoods(g, TONS);
                int from = over.ofGoods(g, FROM);
                int to = over.ofGoods(g, TO);
                ways.prepare(over, linesBearing(over, tons));
                if (ways.trace(from, to)) {
                    turnCost += tons * ways.costFrom(from);
                    load(tons);
                } else {
                    turnCost += tons * WAYLESS;
                    turnWayless += tons;
                }
            }
        }

        private int linesBearing(Land over, int tons) {
            int bits = over.linesThere();
            for (int line = 0; line < over.lineCount; line++) {
                if (left[line] < tons) {
                    bits &= ~(1 << line);
                }
            }
            return bits;
        }

        private void load(int tons) {
            for (int step = 1; step < ways.stepCount; step++) {
                int line = ways.lineOn(step);
                if (line != NONE) {
                    left[line] = Math.max(0, left[line] - tons);
                }
            }
        }

        void earn(Land over, int[] byOwner) {
            Arrays.fill(byOwner, 0);
            ways.prepare(over, over.linesThere());
            for (int g = 0; g < over.goodsCount; g++) {
                if (ways.trace(over.ofGoods(g, FROM), over.ofGoods(g, TO))) {
                    payOwners(over, over.ofGoods(g, TONS), byOwner);
                }
            }
        }

        private void payOwners(Land over, int tons, int[] byOwner) {
            for (int step = 1; step < ways.stepCount; step++) {
                int line = ways.lineOn(step);
                if (over.hasLine(line)) {
                    byOwner[over.ofLine(line, OWNER)] += tons * over.ofLine(line, MILES);
                }
            }
        }

        // THROUGH a PLACE, or CHANGED there.
        int tonsAt(Land over, int place, boolean changed) {
            ways.prepare(over, over.linesThere());
            int sum = 0;
            for (int g = 0; g < over.goodsCount; g++) {
                if (ways.trace(over.ofGoods(g, FROM), over.ofGoods(g, TO))) {
                    int times = changed ? changesAt(place) : Math.min(1, stepsTo(place));
                    sum += over.ofGoods(g, TONS) * times;
                }
            }
            return sum;
        }

        private int changesAt(int place) {
            int count = 0;
            for (int step = 1; step < ways.stepCount; step++) {
                if (ways.isChange(step) && ways.placeAfter(step) == place) {
                    count++;
                }
            }
            return count;
        }

        private int stepsTo(int place) {
            int count = 0;
            for (int step = 0; step < ways.stepCount; step++) {
                if (ways.placeAfter(step) == place) {
                    count++;
                }
            }
            return count;
        }

        // HANGS; NONE: no LINES there.
        int dearestLoss(Land over) {
            int there = over.linesThere();
            int dearest = NONE;
            int most = NONE;
            for (int line = 0; line < over.lineCount; line++) {
                if ((there >> line & 1) != 0) {
                    int cost = freeBy(over, there & ~(1 << line));
                    if (cost > most) {
                        most = cost;
                        dearest = line;
                    }
                }
            }
            return dearest;
        }
    }

    /** Which WORKS to do: all is tried on other lands, never on the one that is asked about. */
    private static final class Choice {
        final Traffic traffic;
        final Land after;
        final int[] gained;
        private final Land trial;

        Choice() {
            traffic = new Traffic();
            after = new Land();
            gained = new int[OWNERS];
            trial = new Land();
        }

        // FREE with the WORKS of a set DONE that aren't DONE for good.
        int freeWith(Land over, int set) {
            int undone = set & ~over.doneWorks();
            int known = over.freeKnown(undone);
            if (known != NONE) {
                return known;
            }
            Land then = over;
            if (undone != 0) {
                then = trial;
                then.take(over);
            }
            for (int work = 0; work < over.workCount; work++) {
                if ((undone >> work & 1) != 0) {
                    then.perform(work);
                }
            }
            int cost = traffic.freeBy(then, then.linesThere());
            over.keepFree(undone, cost);
            return cost;
        }

        int totalOf(Land over, int set) {
            int sum = over.years * freeWith(over, set);
            for (int work = 0; work < over.workCount; work++) {
                if ((set >> work & 1) != 0 && !over.isDone(work)) {
                    sum += over.ofWork(work, COIN);
                }
            }
            return sum;
        }

        int bestOf(Land over) {
            int best = 0;
            int least = totalOf(over, 0);
            int done = over.doneWorks();
            for (int set = 1; set < 1 << over.workCount; set++) {
                // A set with DONE ones comes to the same as the one without them, which is less as bits.
                if ((set & done) == 0) {
                    int sum = totalOf(over, set);
                    if (sum < least) {
                        least = sum;
                        best = set;
                    }
                }
            }
            return best;
        }

        int worthIn(Land over, int work, int years) {
            return years * (freeWith(over, 0) - freeWith(over, 1 << work)) - over.ofWork(work, COIN);
        }

        int firstOf(Land over) {
            int first = NONE;
            int most = 0;
            for (int work = 0; work < over.workCount; work++) {
                if (!over.isDone(work)) {
                    int worth = worthIn(over, work, over.years);
                    if (worth > most) {
                        most = worth;
                        first = work;
                    }
                }
            }
            return first;
        }

        int greedyOf(Land over) {
            after.take(over);
            int set = 0;
            int work = firstOf(after);
            for (int round = 0; round < WORKS && work != NONE; round++) {
                set |= 1 << work;
                after.performForGood(work);
                work = firstOf(after);
            }
            return set;
        }

        int neverOf(Land over) {
            int bits = 0;
            for (int work = 0; work < over.workCount; work++) {
                if (!over.isDone(work) && alwaysCostsMore(over, work)) {
                    bits |= 1 << work;
                }
            }
            return bits;
        }

        private boolean alwaysCostsMore(Land over, int work) {
            int shut = over.doneWorks() | 1 << work;
            for (int set = 0; set < 1 << over.workCount; set++) {
                if ((set & shut) == 0 && totalOf(over, set | 1 << work) <= totalOf(over, set)) {
                    return false;
                }
            }
            return true;
        }

        // ONE WIDTH.
        int costOfWidth(Land over, int width, int coinAMile) {
            trial.take(over);
            int sum = 0;
            for (int line = 0; line < over.lineCount; line++) {
                if (over.ofLine(line, WASHED) == 0) {
                    if ((over.ofLine(line, WIDTH_SET) >> width & 1) == 0) {
                        sum += coinAMile * over.ofLine(line, MILES);
                    }
                    trial.putWidths(line, 1 << width);
                }
            }
            return sum + over.years * traffic.freeBy(trial, trial.linesThere());
        }

        void gainBy(Land over, int work) {
            trial.take(over);
            trial.perform(work);
            traffic.earn(trial, gained);
            traffic.earn(over, traffic.earned);
            for (int owner = 0; owner < OWNERS; owner++) {
                gained[owner] -= traffic.earned[owner];
            }
        }

        // The WORK that an element of a PLAN tells; one that is DONE for good is as none.
        private static int workTold(Land over, long element) {
            if (element < 0 || element >= over.workCount || over.isDone((int) element)) {
                return NONE;
            }
            return (int) element;
        }

        int wrongAt(Land over, long[] elements, int n) {
            int told = 0;
            for (int i = 0; i < n && i < elements.length; i++) {
                int work = workTold(over, elements[i]);
                if (work != NONE) {
                    if ((told >> work & 1) != 0) {
                        return i;
                    }
                    told |= 1 << work;
                }
            }
            return NONE;
        }

        int costOfPlan(Land over, long[] elements, int n) {
            after.take(over);
            int sum = 0;
            for (int i = 0; i < n && i < elements.length; i++) {
                sum += costOfYear(after, workTold(after, elements[i]));
            }
            return sum;
        }

        // The YEAR goes by on the land itself.
        int costOfYear(Land over, int work) {
            int coins = 0;
            if (over.hasWork(work)) {
                coins = over.ofWork(work, COIN);
                over.performForGood(work);
            }
            return coins + freeWith(over, 0);
        }
    }
}
