/** Counts the answers of a test that are not as due. */
final class Check {
    private final String name;
    private int asked;
    private int wrong;

    Check(String name) {
        this.name = name;
    }

    void due(String call, long got, long want) {
        asked++;
        if (got != want) {
            wrong++;
            System.out.println(name + ": " + call + " answered " + got + ", due is " + want);
        }
    }

    void due(String call, boolean holds) {
        due(call, holds ? 1 : 0, 1);
    }

    /** Feeds a text byte by byte. */
    static void feed(TwoWidths x, String text) {
        for (int i = 0; i < text.length(); i++) {
            x.feed(text.charAt(i), 1);
        }
    }

    /** What land() answers to a text on the tape of an object. */
    static int land(TwoWidths x, String text) {
        feed(x, text);
        return x.land();
    }

    /** An object that has read a text; the text must be a land. */
    static TwoWidths of(String text) {
        TwoWidths x = new TwoWidths();
        for (String part : text.split("\\|")) {
            if (land(x, part) < 0) {
                throw new IllegalStateException("no land: " + part);
            }
        }
        return x;
    }

    void end() {
        System.out.println(name + ": " + asked + " answers, " + wrong + " not as due");
        if (wrong != 0 || asked == 0) {
            System.exit(1);
        }
    }
}
