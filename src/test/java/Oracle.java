import java.util.ArrayList;
import java.util.Arrays;
import java.util.HashMap;
import java.util.List;
import java.util.Map;

/**
 * The document once more, written slowly and apart from the class: Floyd and Warshall for CHEAPEST, a search through
 * all rows in their order for THE WAY, a new copy of the land for every trial.
 */
public final class Oracle {
    static final int INF = 100_000_000;

    record Line(int from, int to, int widths, int miles, int bears, int owner, boolean washed) { }

    record Goods(int from, int to, int tons) { }

    record Work(int kind, int a, int b, int coin, boolean done) { }

    static final class World {
        List<Line> lines = new ArrayList<>();
        List<Goods> goods = new ArrayList<>();
        List<Work> works = new ArrayList<>();
        int[] change = new int[12];
        int[] coin = {1, 1, 1};
        int years = 10;

        World() {
            Arrays.fill(change, 9);
        }

        World twin() {
            World t = new World();
            t.lines = new ArrayList<>(lines);
            t.goods = new ArrayList<>(goods);
            t.works = new ArrayList<>(works);
            t.change = change.clone();
            t.coin = coin.clone();
            t.years = years;
            return t;
        }

        void act(int w) {
            Work k = works.get(w);
            if (k.kind == 1) {
                Line l = lines.get(k.a);
                lines.set(k.a, new Line(l.from, l.to, 1 << k.b, l.miles, l.bears, l.owner, l.washed));
            } else if (k.kind == 2) {
                Line l = lines.get(k.a);
                lines.set(k.a, new Line(l.from, l.to, l.widths | 1 << k.b, l.miles, l.bears, l.owner, l.washed));
            } else if (k.kind == 3) {
                change[k.a] = k.b;
            } else if (lines.size() < 20) {
                lines.add(new Line(k.a, k.b, 7, 10, k.kind == 4 ? 99 : 198, 0, false));
            }
        }

        void actForGood(int w) {
            act(w);
            Work k = works.get(w);
            works.set(w, new Work(k.kind, k.a, k.b, k.coin, true));
        }

        int[][] distances(boolean[] use) {
            int[][] d = new int[36][36];
            for (int i = 0; i < 36; i++) {
                for (int j = 0; j < 36; j++) {
                    d[i][j] = i == j ? 0 : i / 3 == j / 3 ? change[i / 3] : INF;
                }
            }
            for (int i = 0; i < lines.size(); i++) {
                Line l = lines.get(i);
                for (int w = 0; w < 3 && use[i]; w++) {
                    if ((l.widths & 1 << w) != 0) {
                        int a = l.from * 3 + w;
                        int b = l.to * 3 + w;
                        d[a][b] = Math.min(d[a][b], l.miles * coin[w]);
                        d[b][a] = d[a][b];
                    }
                }
            }
            for (int k = 0; k < 36; k++) {
                for (int i = 0; i < 36; i++) {
                    if (d[i][k] < INF) {
                        for (int j = 0; j < 36; j++) {
                            d[i][j] = Math.min(d[i][j], d[i][k] + d[k][j]);
                        }
                    }
                }
            }
            return d;
        }

        boolean[] there() {
            boolean[] use = new boolean[20];
            for (int i = 0; i < lines.size(); i++) {
                use[i] = !lines.get(i).washed;
            }
            return use;
        }

        static int between(int[][] d, int from, int to) {
            int least = INF;
            for (int v = 0; v < 3; v++) {
                for (int w = 0; w < 3; w++) {
                    least = Math.min(least, d[from * 3 + v][to * 3 + w]);
                }
            }
            return least;
        }

        int freeBy(boolean[] use) {
            int[][] d = distances(use);
            int sum = 0;
            for (Goods g : goods) {
                int c = between(d, g.from, g.to);
                sum += g.tons * (c >= INF ? 999 : c);
            }
            return sum;
        }

        int freeNow() {
            return freeBy(there());
        }

        /** The row of THE WAY; null: none. */
        List<Integer> theWay(int from, int to, boolean[] use) {
            int[][] d = distances(use);
            int least = between(d, from, to);
            if (least >= INF) {
                return null;
            }
            for (int w = 0; w < 3; w++) {
                List<Integer> row = new ArrayList<>();
                row.add(w);
                boolean[] met = new boolean[36];
                met[from * 3 + w] = true;
                if (onward(from, w, to, least, d, use, met, row)) {
                    return row;
                }
            }
            throw new IllegalStateException("a least cost without a way");
        }

        private boolean onward(int place, int width, int to, int rest, int[][] d, boolean[] use, boolean[] met,
            List<Integer> row) {
            if (place == to) {
                return rest == 0;
            }
            for (int step = 0; step < 3 + lines.size(); step++) {
                int p = place;
                int w = width;
                int cost;
                if (step < 3) {
                    w = step;
                    cost = change[place];
                } else {
                    Line l = lines.get(step - 3);
                    if (!use[step - 3] || (l.widths & 1 << width) == 0 || l.from != place && l.to != place) {
                        continue;
                    }
                    p = l.from == place ? l.to : l.from;
                    cost = l.miles * coin[width];
                }
                int node = p * 3 + w;
                int least = Math.min(d[node][to * 3], Math.min(d[node][to * 3 + 1], d[node][to * 3 + 2]));
                if (met[node] || cost + least > rest) {
                    continue;
                }
                met[node] = true;
                row.add(step);
                if (onward(p, w, to, rest - cost, d, use, met, row)) {
                    return true;
                }
                row.remove(row.size() - 1);
                met[node] = false;
            }
            return false;
        }

        int costOf(int from, int to, boolean[] use) {
            return between(distances(use), from, to);
        }

        int[] earned() {
            int[] by = new int[6];
            for (Goods g : goods) {
                List<Integer> row = theWay(g.from, g.to, there());
                for (int i = 1; row != null && i < row.size(); i++) {
                    if (row.get(i) >= 3) {
                        Line l = lines.get(row.get(i) - 3);
                        by[l.owner] += g.tons * l.miles;
                    }
                }
            }
            return by;
        }

        int first() {
            int now = freeNow();
            int found = -1;
            int most = 0;
            for (int w = 0; w < works.size(); w++) {
                if (!works.get(w).done) {
                    World t = twin();
                    t.act(w);
                    int worth = years * (now - t.freeNow()) - works.get(w).coin;
                    if (worth > most) {
                        most = worth;
                        found = w;
                    }
                }
            }
            return found;
        }

        int total(int set) {
            World t = twin();
            int coins = 0;
            for (int w = 0; w < works.size(); w++) {
                if ((set & 1 << w) != 0 && !works.get(w).done) {
                    t.act(w);
                    coins += works.get(w).coin;
                }
            }
            return coins + years * t.freeNow();
        }
    }

    private World world = new World();
    private World image;
    private final StringBuilder tape = new StringBuilder();
    private final Object[] shelf = new Object[8];
    private final int[] shelfSort = new int[8];
    private final int[] refusals = new int[5];
    private int gone;
    private int spent;

    private int no(int r) {
        refusals[-2 - r]++;
        return r;
    }

    private static boolean in(long v, long a, long b) {
        return a <= v && v <= b;
    }

    public int row(int s, int sort, int n) {
        if (!in(s, 0, 7) || !in(sort, 0, 4) || !in(n, 0, 40)) {
            return no(-2);
        }
        shelf[s] = new long[n];
        shelfSort[s] = sort;
        return 1;
    }

    private int rowOnly(int s) {
        if (!in(s, 0, 7)) {
            return -2;
        }
        if (shelf[s] instanceof Integer) {
            return -3;
        }
        return shelf[s] == null ? -4 : 0;
    }

    public int set(int s, int i, long v) {
        int r = rowOnly(s);
        if (r != 0) {
            return no(r);
        }
        long[] row = (long[]) shelf[s];
        if (!in(i, 0, row.length - 1)) {
            return no(-2);
        }
        row[i] = switch (shelfSort[s]) {
            case 0 -> (byte) v;
            case 1 -> (short) v;
            case 2 -> (int) v;
            case 3 -> v;
            default -> v == 0 ? 0 : 1;
        };
        return 1;
    }

    public int copy(int p, int q, int i, int j, int n) {
        if (!in(p, 0, 7) || !in(q, 0, 7)) {
            return no(-2);
        }
        boolean rows = shelf[p] instanceof long[] && shelf[q] instanceof long[];
        if (shelf[p] instanceof Integer || shelf[q] instanceof Integer || rows && shelfSort[p] != shelfSort[q]) {
            return no(-3);
        }
        if (!rows) {
            return no(-4);
        }
        long[] a = ((long[]) shelf[p]).clone();
        long[] b = (long[]) shelf[q];
        if (n < 0 || i < 0 || j < 0 || (long) i + n > a.length || (long) j + n > b.length) {
            return no(-2);
        }
        for (int k = 0; k < n; k++) {
            b[j + k] = a[i + k];
        }
        return n;
    }

    public long element(int s, int i) {
        if (in(s, 0, 7) && shelf[s] instanceof long[] row && in(i, 0, row.length - 1)) {
            return row[i];
        }
        return 0;
    }

    public int holds(int s) {
        if (!in(s, 0, 7) || shelf[s] == null) {
            return -1;
        }
        return shelf[s] instanceof Integer w ? 10 + w : shelfSort[s];
    }

    public int show(int s, int work) {
        if (!in(s, 0, 7) || !in(work, -1, world.works.size() - 1)) {
            return no(-2);
        }
        shelf[s] = work == -1 ? null : Integer.valueOf(work);
        return 1;
    }

    public int says(int s, int kind) {
        if (!in(s, 0, 7) || !in(kind, 0, 5)) {
            return no(-2);
        }
        if (shelf[s] == null) {
            return no(-4);
        }
        if (!(shelf[s] instanceof Integer w)) {
            return no(-3);
        }
        Work k = world.works.get(w);
        boolean fits = kind == 0 || k.kind == kind || kind == 1 && k.kind == 2 || kind == 4 && k.kind == 5;
        if (!fits) {
            return no(-3);
        }
        return kind == 0 ? k.coin : kind >= 4 ? 100 * k.a + k.b : k.a;
    }

    public int line(int from, int to, int widths, int miles, int bears, int owner) {
        if (!in(from, 0, 11) || !in(to, 0, 11) || from == to || !in(widths, 1, 7) || !in(miles, 1, 60)
            || !in(bears, 1, 999) || !in(owner, 0, 5)) {
            return no(-2);
        }
        if (world.lines.size() == 20) {
            return no(-6);
        }
        world.lines.add(new Line(from, to, widths, miles, bears, owner, false));
        return world.lines.size() - 1;
    }

    public int goods(int from, int to, int tons) {
        if (!in(from, 0, 11) || !in(to, 0, 11) || from == to || !in(tons, 1, 99)) {
            return no(-2);
        }
        if (world.goods.size() == 8) {
            return no(-6);
        }
        world.goods.add(new Goods(from, to, tons));
        return world.goods.size() - 1;
    }

    public int work(int kind, int a, int b, int coin) {
        boolean fits = switch (kind) {
            case 1, 2 -> in(a, 0, world.lines.size() - 1) && in(b, 0, 2);
            case 3 -> in(a, 0, 11) && in(b, 0, 99);
            case 4, 5 -> in(a, 0, 11) && in(b, 0, 11) && a != b;
            default -> false;
        };
        if (!fits || !in(coin, 0, 9999)) {
            return no(-2);
        }
        if (world.works.size() == 7) {
            return no(-6);
        }
        world.works.add(new Work(kind, a, b, coin, false));
        return world.works.size() - 1;
    }

    public int change(int place, int v) {
        if (!in(place, 0, 11) || !in(v, 0, 99)) {
            return no(-2);
        }
        int was = world.change[place];
        world.change[place] = v;
        return was;
    }

    public int coin(int width, int v) {
        if (!in(width, 0, 2) || !in(v, 0, 9)) {
            return no(-2);
        }
        int was = world.coin[width];
        world.coin[width] = v;
        return was;
    }

    public int years(int v) {
        if (!in(v, 1, 30)) {
            return no(-2);
        }
        int was = world.years;
        world.years = v;
        return was;
    }

    public int washed(int line, boolean is) {
        if (!in(line, 0, world.lines.size() - 1)) {
            return no(-2);
        }
        Line l = world.lines.get(line);
        if (l.washed == is) {
            return 0;
        }
        world.lines.set(line, new Line(l.from, l.to, l.widths, l.miles, l.bears, l.owner, is));
        return 1;
    }

    public int feed(int v, int n) {
        if (!in(n, 1, 4)) {
            return no(-2);
        }
        if (tape.length() + n > 250) {
            return no(-6);
        }
        for (int i = n - 1; i >= 0; i--) {
            tape.append((char) (v >>> 8 * i & 255));
        }
        return tape.length();
    }

    public int wipe() {
        int was = tape.length();
        tape.setLength(0);
        return was;
    }

    private record Token(char sort, int at, String text) { }

    /** Thrown at the place of the fault. */
    private static final class Fault extends Exception {
        private static final long serialVersionUID = 1L;
        final int at;

        Fault(int at) {
            this.at = at;
        }
    }

    private static List<Token> tokens(String text) {
        List<Token> list = new ArrayList<>();
        int at = 0;
        while (at < text.length()) {
            char c = text.charAt(at);
            if (c == ' ') {
                at++;
                continue;
            }
            String chars = c >= 'a' && c <= 'z' ? "abcdefghijklmnopqrstuvwxyz" : c >= '0' && c <= '9' ? "0123456789" : "";
            int end = at + 1;
            while (!chars.isEmpty() && end < text.length() && chars.indexOf(text.charAt(end)) >= 0) {
                end++;
            }
            char sort = chars.length() == 26 ? 'w' : chars.length() == 10 ? 'n' : c == ';' ? ';' : '?';
            list.add(new Token(sort, at, text.substring(at, end)));
            at = end;
        }
        list.add(new Token('e', text.length(), ""));
        return list;
    }

    private static int numberOf(Token t, int low, int high) throws Fault {
        if (t.sort != 'n' || t.text.length() > 3 || !in(Integer.parseInt(t.text), low, high)) {
            throw new Fault(t.at);
        }
        return Integer.parseInt(t.text);
    }

    private static void mustBe(Token t, boolean holds) throws Fault {
        if (!holds) {
            throw new Fault(t.at);
        }
    }

    private static int statement(World w, List<Token> list, int start) throws Fault {
        int i = start;
        Token head = list.get(i++);
        mustBe(head, head.sort == 'w');
        switch (head.text) {
            case "line" -> {
                mustBe(head, w.lines.size() < 20);
                int a = numberOf(list.get(i++), 0, 11);
                int b = numberOf(list.get(i), 0, 11);
                mustBe(list.get(i++), a != b);
                mustBe(list.get(i), list.get(i).text.equals("width"));
                i++;
                int widths = numberOf(list.get(i++), 1, 7);
                mustBe(list.get(i), list.get(i).text.equals("miles"));
                i++;
                int miles = numberOf(list.get(i++), 1, 60);
                int bears = 999;
                int owner = 0;
                if (list.get(i).text.equals("bears")) {
                    bears = numberOf(list.get(i + 1), 1, 999);
                    i += 2;
                }
                if (list.get(i).text.equals("owner")) {
                    owner = numberOf(list.get(i + 1), 0, 5);
                    i += 2;
                }
                w.lines.add(new Line(a, b, widths, miles, bears, owner, false));
            }
            case "change" -> {
                int p = numberOf(list.get(i++), 0, 11);
                w.change[p] = numberOf(list.get(i++), 0, 99);
            }
            case "coin" -> {
                int p = numberOf(list.get(i++), 0, 2);
                w.coin[p] = numberOf(list.get(i++), 0, 9);
            }
            case "goods" -> {
                mustBe(head, w.goods.size() < 8);
                int a = numberOf(list.get(i++), 0, 11);
                int b = numberOf(list.get(i), 0, 11);
                mustBe(list.get(i++), a != b);
                w.goods.add(new Goods(a, b, numberOf(list.get(i++), 1, 99)));
            }
            case "work" -> {
                mustBe(head, w.works.size() < 7);
                int k = numberOf(list.get(i++), 1, 5);
                int a = numberOf(list.get(i++), 0, k <= 2 ? w.lines.size() - 1 : 11);
                int b = numberOf(list.get(i), 0, k <= 2 ? 2 : k == 3 ? 99 : 11);
                mustBe(list.get(i++), k <= 3 || a != b);
                w.works.add(new Work(k, a, b, numberOf(list.get(i++), 0, 999), false));
            }
            case "years" -> w.years = numberOf(list.get(i++), 1, 30);
            default -> throw new Fault(head.at);
        }
        return i;
    }

    public int land() {
        List<Token> list = tokens(tape.toString());
        tape.setLength(0);
        World w = world.twin();
        int count = 0;
        int i = 0;
        try {
            while (true) {
                i = statement(w, list, i);
                count++;
                if (list.get(i).sort == 'e') {
                    break;
                }
                mustBe(list.get(i), list.get(i).sort == ';');
                i++;
            }
        } catch (Fault f) {
            no(-2);
            return -20 - f.at;
        }
        world = w;
        return count;
    }

    public int lineOf(int line, int what) {
        if (!in(line, 0, world.lines.size() - 1) || !in(what, 0, 6)) {
            return no(-2);
        }
        Line l = world.lines.get(line);
        return new int[] {l.from, l.to, l.widths, l.miles, l.bears, l.owner, l.washed ? 1 : 0}[what];
    }

    public int goodsOf(int goods, int what) {
        if (!in(goods, 0, world.goods.size() - 1) || !in(what, 0, 2)) {
            return no(-2);
        }
        Goods g = world.goods.get(goods);
        return new int[] {g.from, g.to, g.tons}[what];
    }

    public int workOf(int work, int what) {
        if (!in(work, 0, world.works.size() - 1) || !in(what, 0, 4)) {
            return no(-2);
        }
        Work k = world.works.get(work);
        return new int[] {k.kind, k.a, k.b, k.coin, k.done ? 1 : 0}[what];
    }

    public int cheapest(int from, int to) {
        if (!in(from, 0, 11) || !in(to, 0, 11)) {
            return no(-2);
        }
        int c = from == to ? 0 : world.costOf(from, to, world.there());
        return c >= INF ? no(-5) : c;
    }

    public int way(int goods, int what) {
        if (!in(goods, 0, world.goods.size() - 1) || what < 0 || in(what, 4, 9) || what > 46) {
            return no(-2);
        }
        Goods g = world.goods.get(goods);
        List<Integer> row = world.theWay(g.from, g.to, world.there());
        if (row == null) {
            return no(-5);
        }
        List<Integer> onLines = new ArrayList<>();
        int width = row.get(0);
        for (int i = 1; i < row.size(); i++) {
            if (row.get(i) < 3) {
                width = row.get(i);
            } else {
                onLines.add(row.get(i) - 3);
            }
        }
        if (what >= 10) {
            return what - 10 < onLines.size() ? onLines.get(what - 10) : no(-2);
        }
        return new int[] {onLines.size(), row.size() - 1 - onLines.size(), row.get(0), width}[what];
    }

    public int free() {
        return world.freeNow();
    }

    public int turn(int what) {
        if (!in(what, 0, 1) && !in(what, 10, 9 + world.lines.size())) {
            return no(-2);
        }
        int[] left = new int[20];
        for (int i = 0; i < world.lines.size(); i++) {
            left[i] = world.lines.get(i).bears;
        }
        int cost = 0;
        int without = 0;
        for (Goods g : world.goods) {
            boolean[] use = world.there();
            for (int i = 0; i < 20; i++) {
                use[i] = use[i] && left[i] >= g.tons;
            }
            List<Integer> row = world.theWay(g.from, g.to, use);
            if (row == null) {
                cost += 999 * g.tons;
                without += g.tons;
                continue;
            }
            cost += g.tons * world.costOf(g.from, g.to, use);
            for (int i = 1; i < row.size(); i++) {
                if (row.get(i) >= 3) {
                    left[row.get(i) - 3] = Math.max(0, left[row.get(i) - 3] - g.tons);
                }
            }
        }
        return what == 0 ? cost : what == 1 ? without : left[what - 10];
    }

    public int total(int set) {
        if (set < 0 || set >> world.works.size() != 0) {
            return no(-2);
        }
        return world.total(set);
    }

    public int best() {
        int found = 0;
        for (int set = 1; set < 1 << world.works.size(); set++) {
            if (totals(set) < totals(found)) {
                found = set;
            }
        }
        memo.clear();
        return found;
    }

    private final Map<Integer, Integer> memo = new HashMap<>();

    // Only kept within one call.
    private int totals(int set) {
        return memo.computeIfAbsent(set, s -> world.total(s));
    }

    public int worth(int work) {
        int r = refusal(work);
        if (r != 0) {
            return -1000000 + no(r);
        }
        return worthBy(work, world.years);
    }

    private int worthBy(int work, int years) {
        World t = world.twin();
        t.act(work);
        return years * (world.freeNow() - t.freeNow()) - world.works.get(work).coin;
    }

    private int refusal(int work) {
        if (!in(work, 0, world.works.size() - 1)) {
            return -2;
        }
        return world.works.get(work).done ? -5 : 0;
    }

    public int first() {
        return world.first();
    }

    public int greedy() {
        World t = world.twin();
        int set = 0;
        for (int w = t.first(); w >= 0; w = t.first()) {
            t.actForGood(w);
            set |= 1 << w;
        }
        return set;
    }

    public int gap() {
        return world.total(greedy()) - world.total(best());
    }

    public int edge(int work) {
        int r = refusal(work);
        if (r != 0) {
            return no(r);
        }
        for (int y = 1; y <= 30; y++) {
            if (worthBy(work, y) > 0) {
                return y;
            }
        }
        return -1;
    }

    public int never() {
        int bits = 0;
        for (int w = 0; w < world.works.size(); w++) {
            boolean more = !world.works.get(w).done;
            for (int set = 0; more && set < 1 << world.works.size(); set++) {
                boolean open = (set & 1 << w) == 0;
                for (int v = 0; v < world.works.size(); v++) {
                    open &= (set & 1 << v) == 0 || !world.works.get(v).done;
                }
                more = !open || totals(set | 1 << w) > totals(set);
            }
            bits |= more ? 1 << w : 0;
        }
        memo.clear();
        return bits;
    }

    public int one(int w, int v) {
        if (!in(w, 0, 2) || !in(v, 0, 99)) {
            return no(-2);
        }
        World t = world.twin();
        int coins = 0;
        for (int i = 0; i < t.lines.size(); i++) {
            Line l = t.lines.get(i);
            if (!l.washed) {
                coins += (l.widths & 1 << w) == 0 ? v * l.miles : 0;
                t.lines.set(i, new Line(l.from, l.to, 1 << w, l.miles, l.bears, l.owner, false));
            }
        }
        return coins + t.years * t.freeNow();
    }

    public int which(int v) {
        if (!in(v, 0, 99)) {
            return no(-2);
        }
        int a = one(0, v);
        int b = one(1, v);
        int c = one(2, v);
        return a <= b && a <= c ? 0 : b <= c ? 1 : 2;
    }

    public int earns(int owner) {
        return in(owner, 0, 5) ? world.earned()[owner] : no(-2);
    }

    public int gains(int owner, int work) {
        int r = in(owner, 0, 5) ? refusal(work) : -2;
        if (r != 0) {
            return -1000000 + no(r);
        }
        World t = world.twin();
        t.act(work);
        return t.earned()[owner] - world.earned()[owner];
    }

    public int losers(int work) {
        int r = refusal(work);
        if (r != 0) {
            return no(r);
        }
        int bits = 0;
        for (int o = 0; o < 6; o++) {
            bits |= gains(o, work) < 0 ? 1 << o : 0;
        }
        return bits;
    }

    public int port(int place, boolean changed) {
        if (!in(place, 0, 11)) {
            return no(-2);
        }
        int sum = 0;
        for (Goods g : world.goods) {
            List<Integer> row = world.theWay(g.from, g.to, world.there());
            int at = g.from;
            boolean seen = at == place;
            int changes = 0;
            for (int i = 1; row != null && i < row.size(); i++) {
                if (row.get(i) < 3) {
                    changes += at == place ? 1 : 0;
                } else {
                    Line l = world.lines.get(row.get(i) - 3);
                    at = l.from == at ? l.to : l.from;
                    seen |= at == place;
                }
            }
            if (row != null) {
                sum += g.tons * (changed ? changes : seen ? 1 : 0);
            }
        }
        return sum;
    }

    public int hangs() {
        int found = -1;
        int most = -1;
        for (int i = 0; i < world.lines.size(); i++) {
            boolean[] use = world.there();
            if (use[i]) {
                use[i] = false;
                int f = world.freeBy(use);
                if (f > most) {
                    most = f;
                    found = i;
                }
            }
        }
        return found < 0 ? no(-5) : found;
    }

    private int planRefusal(int s, int n) {
        if (!in(s, 0, 7) || !in(n, 0, 30)) {
            return -2;
        }
        int r = rowOnly(s);
        return r != 0 ? r : ((long[]) shelf[s]).length < n ? -2 : 0;
    }

    private int told(int s, int i) {
        long v = ((long[]) shelf[s])[i];
        return in(v, 0, world.works.size() - 1) && !world.works.get((int) v).done ? (int) v : -1;
    }

    private int wrong(int s, int n) {
        for (int i = 0; i < n; i++) {
            for (int j = 0; j < i; j++) {
                if (told(s, i) >= 0 && told(s, i) == told(s, j)) {
                    return i;
                }
            }
        }
        return -1;
    }

    public int plan(int s, int n) {
        int r = planRefusal(s, n);
        if (r == 0 && wrong(s, n) >= 0) {
            r = -5;
        }
        if (r != 0) {
            return no(r);
        }
        World t = world.twin();
        int cost = 0;
        for (int i = 0; i < n; i++) {
            if (told(s, i) >= 0) {
                t.act(told(s, i));
                cost += t.works.get(told(s, i)).coin;
            }
            cost += t.freeNow();
        }
        return cost;
    }

    public int judge(int s, int n) {
        int r = planRefusal(s, n);
        return r != 0 ? no(r) : wrong(s, n);
    }

    public int year(int work) {
        int r = work == -1 ? 0 : refusal(work);
        if (r != 0) {
            return no(r);
        }
        int cost = 0;
        if (work >= 0) {
            world.actForGood(work);
            cost = world.works.get(work).coin;
        }
        cost += world.freeNow();
        gone++;
        spent += cost;
        return cost;
    }

    public int run(int n) {
        if (!in(n, 1, 20)) {
            return no(-2);
        }
        int cost = 0;
        for (int i = 0; i < n; i++) {
            cost += year(first());
        }
        return cost;
    }

    public int image() {
        image = world.twin();
        return 1;
    }

    public int back() {
        if (image == null) {
            return no(-5);
        }
        world = image.twin();
        for (int s = 0; s < 8; s++) {
            if (shelf[s] instanceof Integer w && w >= world.works.size()) {
                shelf[s] = null;
            }
        }
        return 1;
    }

    public int status(int what) {
        int done = 0;
        for (Work k : world.works) {
            done += k.done ? 1 : 0;
        }
        int used = 0;
        for (Object o : shelf) {
            used += o == null ? 0 : 1;
        }
        int[] told = {world.lines.size(), world.goods.size(), world.works.size(), done, gone, spent, world.years,
            tape.length(), used};
        if (in(what, 0, 8)) {
            return told[what];
        }
        return in(what, 12, 16) ? refusals[what - 12] : -1;
    }
}
