import java.lang.reflect.Method;
import java.util.ArrayList;
import java.util.HashMap;
import java.util.List;
import java.util.Map;
import java.util.Random;

/** Random runs of calls, always the same ones, on the class and on the oracle beside it. */
public final class FuzzTest {
    private static final String[] BUILD = {"line", "goods", "work", "change", "coin", "years", "washed", "tape"};
    private static final String[] ASK = {"cheapest", "way", "way", "way", "free", "turn", "turn", "total", "best",
        "worth", "first", "greedy", "gap", "edge", "never", "one", "which", "earns", "gains", "losers", "port",
        "hangs", "lineOf", "goodsOf", "workOf", "status", "status"};
    private static final String[] SHELF = {"row", "set", "set", "copy", "element", "holds", "show", "says", "plan",
        "judge"};
    private static final String[] PASS = {"year", "run", "image", "back", "feed", "wipe", "land"};

    private final Random random;
    private final TwoWidths x = new TwoWidths();
    private final Oracle y = new Oracle();
    private final List<String> log = new ArrayList<>();
    private final Map<String, Method> onX = new HashMap<>();
    private final Map<String, Method> onY = new HashMap<>();
    private final int places;
    private final boolean cheap;
    private final boolean wild;

    private FuzzTest(long seed) {
        random = new Random(seed);
        places = 3 + random.nextInt(random.nextInt(4) == 0 ? 10 : 4);
        cheap = random.nextInt(3) == 0;
        wild = random.nextInt(4) == 0;
        for (Method m : TwoWidths.class.getDeclaredMethods()) {
            onX.put(m.getName(), m);
        }
        for (Method m : Oracle.class.getDeclaredMethods()) {
            onY.put(m.getName(), m);
        }
    }

    private int upTo(int n) {
        return random.nextInt(n);
    }

    /** Mostly within the two, at times at or beyond the edges. */
    private int near(int low, int high) {
        int odd = upTo(wild ? 8 : 60);
        if (odd == 0) {
            int[] strange = {low - 1, high + 1, Integer.MIN_VALUE, Integer.MAX_VALUE, -1, low, high};
            return strange[upTo(strange.length)];
        }
        return low + upTo(Math.max(1, high - low + 1));
    }

    private int place() {
        return near(0, places - 1);
    }

    private int known(int what) {
        return near(0, Math.max(0, y.status(what) - 1));
    }

    private boolean call(String name, Object... args) {
        try {
            Object a = onX.get(name).invoke(x, args);
            Object b = onY.get(name).invoke(y, args);
            log.add(name + java.util.Arrays.toString(args) + " " + a);
            if (((Number) a).longValue() != ((Number) b).longValue()) {
                log.add("the oracle answers " + b);
                return false;
            }
            return true;
        } catch (ReflectiveOperationException e) {
            log.add(name + java.util.Arrays.toString(args) + " threw " + e + " " + e.getCause());
            return false;
        }
    }

    private boolean build(String name) {
        switch (name) {
            case "line":
                return call(name, place(), place(), near(1, 7), cheap ? near(1, 3) : near(1, 60), near(1, 120), near(0, 5));
            case "goods":
                return call(name, place(), place(), near(1, 99));
            case "work":
                int kind = near(1, 5);
                int coins = upTo(3) == 0 ? near(0, 9999) : near(0, 900);
                if (kind <= 2) {
                    return call(name, kind, known(0), near(0, 2), coins);
                }
                return call(name, kind, place(), kind == 3 ? near(0, 99) : place(), coins);
            case "change":
                return call(name, place(), cheap ? near(0, 2) : near(0, 99));
            case "coin":
                return call(name, near(0, 2), cheap ? near(0, 1) : near(0, 9));
            case "years":
                return call(name, near(1, 30));
            case "washed":
                return call(name, known(0), upTo(3) == 0);
            default:
                return tape();
        }
    }

    private String spaced(Object... parts) {
        StringBuilder b = new StringBuilder();
        boolean first = true;
        for (Object p : parts) {
            b.append(first ? "" : upTo(20) == 0 ? "  " : " ").append(p);
            first = false;
        }
        return b.toString();
    }

    private String statement() {
        switch (upTo(6)) {
            case 0:
                String tail = (upTo(2) == 0 ? " bears " + near(1, 999) : "") + (upTo(2) == 0 ? " owner " + near(0, 5) : "");
                return spaced("line", place(), place(), "width", near(1, 7), "miles", near(1, 60)) + tail;
            case 1:
                return spaced("change", place(), near(0, 99));
            case 2:
                return spaced("coin", near(0, 2), near(0, 9));
            case 3:
                return spaced("goods", place(), place(), near(1, 99));
            case 4:
                int kind = near(1, 5);
                if (kind <= 2) {
                    return spaced("work", kind, known(0), near(0, 2), near(0, 999));
                }
                return spaced("work", kind, place(), kind == 3 ? near(0, 99) : place(), near(0, 999));
            default:
                return spaced("years", near(1, 30));
        }
    }

    private String tapeText() {
        StringBuilder b = new StringBuilder(statement());
        for (int n = upTo(5); n > 0; n--) {
            b.append(upTo(30) == 0 ? " " : ";").append(upTo(5) == 0 ? " " : "").append(statement());
        }
        for (int n = upTo(3) == 0 ? 1 + upTo(2) : 0; n > 0; n--) {
            int at = upTo(b.length());
            switch (upTo(4)) {
                case 0 -> b.deleteCharAt(at);
                case 1 -> b.insert(at, "az09; 1#\u00e9w".charAt(upTo(10)));
                case 2 -> b.setLength(at + 1);
                default -> b.setCharAt(at, " ;0189lx".charAt(upTo(8)));
            }
            if (b.length() == 0) {
                b.append(' ');
            }
        }
        return b.toString();
    }

    private boolean tape() {
        String text = tapeText();
        if (!call("wipe")) {
            return false;
        }
        for (int at = 0; at < text.length();) {
            int n = Math.min(1 + upTo(4), text.length() - at);
            int v = upTo(2) == 0 ? -1 : 0;
            for (int i = 0; i < n; i++) {
                v = v << 8 | text.charAt(at + i);
            }
            if (!call("feed", v, n)) {
                return false;
            }
            at += n;
        }
        return call("land");
    }

    private boolean ask(String name) {
        switch (name) {
            case "cheapest":
                return call(name, place(), place());
            case "way":
                return call(name, known(1), upTo(2) == 0 ? near(0, 3) : near(10, 13));
            case "turn":
                return call(name, upTo(3) == 0 ? near(0, 1) : 10 + known(0));
            case "total":
                return call(name, near(0, (1 << y.status(2)) - 1));
            case "worth":
            case "edge":
            case "losers":
                return call(name, known(2));
            case "one":
                return call(name, near(0, 2), near(0, 99));
            case "which":
                return call(name, near(0, 99));
            case "earns":
                return call(name, near(0, 5));
            case "gains":
                return call(name, near(0, 5), known(2));
            case "port":
                return call(name, place(), upTo(2) == 0);
            case "lineOf":
                return call(name, known(0), near(0, 6));
            case "goodsOf":
                return call(name, known(1), near(0, 2));
            case "workOf":
                return call(name, known(2), near(0, 4));
            case "status":
                return call(name, near(0, 17));
            default:
                return call(name);
        }
    }

    private boolean shelf(String name) {
        int s = near(0, upTo(2) == 0 ? 7 : 2);
        switch (name) {
            case "row":
                return call(name, s, upTo(2) == 0 ? near(0, 4) : near(0, 1), upTo(2) == 0 ? near(0, 40) : near(3, 9));
            case "set":
                return call(name, s, near(0, 6), upTo(3) == 0 ? random.nextLong() : (long) near(-1, 6));
            case "copy":
                return call(name, s, near(0, 2), near(0, 5), near(0, 5), near(0, 5));
            case "element":
                return call(name, s, near(0, 8));
            case "holds":
                return call(name, s);
            case "show":
                return call(name, s, upTo(4) == 0 ? -1 : known(2));
            case "says":
                return call(name, s, near(0, 5));
            default:
                return call(name, s, upTo(3) == 0 ? near(0, 30) : near(0, 6));
        }
    }

    private boolean pass(String name) {
        switch (name) {
            case "year":
                return call(name, upTo(2) == 0 ? -1 : known(2));
            case "run":
                return call(name, near(1, 20));
            case "feed":
                return call(name, random.nextInt(), near(1, 4));
            default:
                return call(name);
        }
    }

    private boolean someCall(int i) {
        int sort = upTo(20);
        if (i < 14 || sort < 4) {
            return build(BUILD[upTo(BUILD.length)]);
        }
        if (sort < 14) {
            return ask(ASK[upTo(ASK.length)]);
        }
        return sort < 19 ? shelf(SHELF[upTo(SHELF.length)]) : pass(PASS[upTo(PASS.length)]);
    }

    // An object is good for 512 calls, and a tape may need some 70 of them.
    private boolean runAll(int calls) {
        for (int i = 0; i < calls && log.size() < 440; i++) {
            if (!someCall(i)) {
                return false;
            }
        }
        return true;
    }

    public static void main(String[] args) {
        int runs = args.length > 0 ? Integer.parseInt(args[0]) : 1000;
        long seed = args.length > 1 ? Long.parseLong(args[1]) : 1000;
        Check check = new Check("FuzzTest");
        for (int i = 0; i < runs; i++) {
            FuzzTest test = new FuzzTest(seed + i);
            boolean same = test.runAll(60 + 20 * (i % 10));
            check.due("run " + (seed + i), same);
            if (!same) {
                List<String> log = test.log;
                System.out.println(String.join("\n", log));
                break;
            }
        }
        check.end();
    }
}
