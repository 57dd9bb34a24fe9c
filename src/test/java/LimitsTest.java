import java.lang.reflect.Method;
import java.util.ArrayList;
import java.util.Arrays;
import java.util.List;

/** Everything asked of lands at the limits, and of small lands where a full one stood before, beside the oracle. */
public final class LimitsTest {
    private static final Check C = new Check("LimitsTest");
    private static final String[] ASKED = {"free", "best", "first", "greedy", "gap", "never", "hangs"};

    private TwoWidths x = new TwoWidths();
    private Oracle y = new Oracle();
    private int calls = 0;
    private final List<Object[]> built = new ArrayList<>();

    public static void main(String[] args) {
        for (int way = 0; way < 4; way++) {
            LimitsTest test = new LimitsTest();
            test.both("image");
            test.full(way);
            test.askAll();
            test.both("back");
            test.small();
            test.askAll();
            test.both("run", 3);
            test.askAll();
        }
        C.end();
    }

    private static Method method(Class<?> of, String name) {
        for (Method m : of.getDeclaredMethods()) {
            if (m.getName().equals(name)) {
                return m;
            }
        }
        throw new IllegalStateException(name);
    }

    // An object is good for 512 calls: then what was built is built anew on another one.
    private void both(String name, Object... args) {
        if (calls >= 500) {
            calls = 0;
            x = new TwoWidths();
            y = new Oracle();
            for (Object[] call : built) {
                ask((String) call[0], (Object[]) call[1]);
            }
        }
        built.add(new Object[] {name, args});
        ask(name, args);
    }

    private void ask(String name, Object... args) {
        calls++;
        try {
            Object a = method(TwoWidths.class, name).invoke(x, args);
            Object b = method(Oracle.class, name).invoke(y, args);
            C.due(name + Arrays.toString(args), ((Number) a).longValue(), ((Number) b).longValue());
        } catch (ReflectiveOperationException e) {
            C.due(name + Arrays.toString(args) + " " + e.getCause(), false);
        }
    }

    private void askOnly(String name, Object... args) {
        both(name, args);
        built.remove(built.size() - 1);
    }

    private void full(int way) {
        for (int i = 0; i < 11; i++) {
            both("line", i, i + 1, way == 1 ? 1 << i % 3 : 7, 60 - i, 99 + i, i % 6);
        }
        for (int i = 0; i < 9; i++) {
            both("line", i + 2, i, way == 0 ? 7 : 1 + i % 7, 59 - 2 * i, 30 * (i + 1), 5 - i % 6);
        }
        for (int i = 0; i < 8; i++) {
            both("goods", i, 11 - i, 99 - i);
        }
        int[][] works = {{3, 11, 0, 100}, {1, 19, 2, 200}, {2, 0, 1, 300}, {4, 0, 11, 9999}, {5, 11, 0, 10}, {3, 5, 99, 0},
            {1, 10, 0, 50}};
        for (int[] w : works) {
            both("work", w[0], w[1], w[2], w[3]);
        }
        for (int w = 0; w < 3; w++) {
            both("coin", w, way == 2 ? 0 : 9 - 2 * w);
        }
        for (int p = 0; p < 12; p++) {
            both("change", p, way == 2 ? p % 3 / 2 : way == 3 ? 0 : 99 - p);
        }
        both("years", 30);
        both("row", 7, 3, 40);
        for (int i = 0; i < 7; i++) {
            both("set", 7, 29 - i, (long) i);
        }
    }

    private void small() {
        both("line", 0, 1, 1, 5, 50, 1);
        both("line", 1, 2, 2, 5, 50, 2);
        both("goods", 0, 2, 10);
        both("work", 3, 1, 0, 899);
        both("row", 7, 3, 40);
        both("set", 7, 0, 1L);
        both("set", 7, 1, 1L);
    }

    private void askAll() {
        for (String name : ASKED) {
            askOnly(name);
        }
        for (int i = -1; i <= 20; i++) {
            askOnly("turn", 10 + i);
            for (int what = -1; what <= 7; what++) {
                askOnly("lineOf", i, what);
            }
        }
        for (int g = -1; g <= 8; g++) {
            for (int what = -1; what <= 24; what++) {
                askOnly("way", g, what);
            }
        }
        for (int w = -1; w <= 7; w++) {
            for (int what = -1; what <= 5; what++) {
                askOnly("workOf", w, what);
                askOnly("gains", what, w);
            }
            askOnly("worth", w);
            askOnly("edge", w);
            askOnly("losers", w);
        }
        for (int p = -1; p <= 12; p++) {
            askOnly("port", p, true);
            askOnly("port", p, false);
            askOnly("earns", p);
            askOnly("which", p);
            askOnly("one", p % 4, 99 - p);
            for (int q = -1; q <= 12; q++) {
                askOnly("cheapest", p, q);
            }
        }
        for (int set = -1; set <= 128; set++) {
            askOnly("total", set);
        }
        for (int n = -1; n <= 31; n++) {
            askOnly("plan", 7, n);
            askOnly("judge", 7, n);
        }
        for (int what = -1; what <= 17; what++) {
            askOnly("status", what);
        }
        askOnly("turn", 0);
        askOnly("turn", 1);
    }
}
