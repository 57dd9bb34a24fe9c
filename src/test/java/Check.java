/** Counts the answers of a test that are not as due. */
final class Check {
    private final String name;
    private int asked;
    private int wrong;

    Check(String name) {
        this.name = name;
    }

    void due(String call, long got, long want) {
        asked++;
        if (got != want) {
            wrong++;
            System.out.println(name + ": " + call + " answered " + got + ", due is " + want);
        }
    }

    void due(String call, boolean holds) {
        due(call, holds ? 1 : 0, 1);
    }

    /** Feeds a text, four bytes at once as long as there are so many: an object is good for 512 calls. */
    static void feed(TwoWidths x, String text) {
        for (int at = 0; at < text.length(); at += 4) {
            int n = Math.min(4, text.length() - at);
            int v = 0;
            for (int i = 0; i < n; i++) {
                v = v << 8 | text.charAt(at + i);
            }
            x.feed(v, n);
        }
    }

    /** What land() answers to a text on the tape of an object. */
    static int land(TwoWidths x, String text) {
        feed(x, text);
        return x.land();
    }

    /** An object that has read a text; the text must be a land. */
    static TwoWidths of(String text) {
        TwoWidths x = new TwoWidths();
        for (String part : text.split("\\|")) {
            if (land(x, part) < 0) {
                throw new IllegalStateException("no land: " + part);
            }
        }
        return x;
    }

    void end() {
        System.out.println(name + ": " + asked + " answers, " + wrong + " not as due");
        if (wrong != 0 || asked == 0) {
            System.exit(1);
        }
    }
}
