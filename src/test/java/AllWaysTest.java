import java.util.ArrayList;
import java.util.List;
import java.util.Random;

/** THE WAY by its definition alone: on small lands all ways are told, and the first row of the cheapest ones is taken. */
public final class AllWaysTest {
    private static final Check C = new Check("AllWaysTest");
    private static final int PLACES = 4;

    private final Random random;
    private final TwoWidths x = new TwoWidths();
    private final List<int[]> lines = new ArrayList<>();
    private final int[] change = new int[PLACES];
    private final int[] coin = new int[3];
    private final List<Integer> row = new ArrayList<>();
    private final boolean[] met = new boolean[3 * PLACES];
    private List<Integer> bestRow;
    private int bestCost;

    private AllWaysTest(long seed) {
        random = new Random(seed);
        int most = 1 + random.nextInt(3);
        for (int p = 0; p < PLACES; p++) {
            change[p] = random.nextInt(most);
            x.change(p, change[p]);
        }
        for (int w = 0; w < 3; w++) {
            coin[w] = random.nextInt(most);
            x.coin(w, coin[w]);
        }
        for (int n = 2 + random.nextInt(5); n > 0; n--) {
            int from = random.nextInt(PLACES);
            int to = (from + 1 + random.nextInt(PLACES - 1)) % PLACES;
            int[] line = {from, to, 1 + random.nextInt(7), 1 + random.nextInt(2)};
            x.line(line[0], line[1], line[2], line[3], 99, 0);
            lines.add(line);
        }
    }

    /** Every way counts, those too that come to the end and go on: the row that is first decides. */
    private void tellOn(int place, int width, int to, int cost) {
        if (place == to && (bestRow == null || cost < bestCost || cost == bestCost && isBefore(row, bestRow))) {
            bestRow = new ArrayList<>(row);
            bestCost = cost;
        }
        for (int w = 0; w < 3; w++) {
            if (w != width) {
                step(w, place, w, to, cost + change[place]);
            }
        }
        for (int i = 0; i < lines.size(); i++) {
            int[] line = lines.get(i);
            if ((line[2] >> width & 1) != 0 && (line[0] == place || line[1] == place)) {
                step(3 + i, line[0] == place ? line[1] : line[0], width, to, cost + line[3] * coin[width]);
            }
        }
    }

    private void step(int number, int place, int width, int to, int cost) {
        int node = 3 * place + width;
        if (met[node] || bestRow != null && cost > bestCost) {
            return;
        }
        met[node] = true;
        row.add(number);
        tellOn(place, width, to, cost);
        row.remove(row.size() - 1);
        met[node] = false;
    }

    private static boolean isBefore(List<Integer> one, List<Integer> other) {
        for (int i = 0; i < one.size() && i < other.size(); i++) {
            if (!one.get(i).equals(other.get(i))) {
                return one.get(i) < other.get(i);
            }
        }
        return one.size() < other.size();
    }

    private void compare(int g, int from, int to) {
        bestRow = null;
        for (int w = 0; w < 3; w++) {
            step(w, from, w, to, 0);
        }
        String name = "goods " + from + " to " + to + " " + bestRow + " ";
        if (bestRow == null) {
            C.due(name + "cheapest", x.cheapest(from, to), -5);
            C.due(name + "way", x.way(g, 0), -5);
            return;
        }
        C.due(name + "cheapest", x.cheapest(from, to), bestCost);
        int width = bestRow.get(0);
        int onLines = 0;
        for (int number : bestRow.subList(1, bestRow.size())) {
            if (number < 3) {
                width = number;
            } else {
                C.due(name + "line " + onLines, x.way(g, 10 + onLines), number - 3);
                onLines++;
            }
        }
        C.due(name + "lines", x.way(g, 0), onLines);
        C.due(name + "changes", x.way(g, 1), bestRow.size() - 1 - onLines);
        C.due(name + "width at first", x.way(g, 2), bestRow.get(0));
        C.due(name + "width at the end", x.way(g, 3), width);
    }

    public static void main(String[] args) {
        int runs = args.length > 0 ? Integer.parseInt(args[0]) : 2000;
        for (int i = 0; i < runs; i++) {
            AllWaysTest test = new AllWaysTest(i);
            for (int g = 0; g < 8; g++) {
                int from = test.random.nextInt(PLACES);
                int to = (from + 1 + test.random.nextInt(PLACES - 1)) % PLACES;
                test.x.goods(from, to, 1);
                test.compare(g, from, to);
            }
        }
        C.end();
    }
}
