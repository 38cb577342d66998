/** Counts answers that are not as due, for the tests' mains. */
final class Check {
    private String words = "";
    private int wrong = 0;
    private int asked = 0;

    /** Which words of the document the answers are asked for that come next. */
    void sentence(String ofTheDocument) {
        words = "'" + ofTheDocument + "': ";
    }

    void due(String call, int got, int want) {
        asked++;
        if (got != want) {
            wrong++;
            System.out.println(words + call + " answered " + got + ", due is " + want);
        }
    }

    void holds(String what, boolean so) {
        due(what, so ? 1 : 0, 1);
    }

    void finish() {
        System.out.println(asked + " answers asked, " + wrong + " wrong");
        if (wrong != 0) {
            System.exit(1);
        }
    }

    void stands(String text, int bridges) {
        QuarrelBridges x = new QuarrelBridges();
        feedAll(x, text);
        due("town of '" + text + "'", x.town(), bridges);
        due("fault of '" + text + "'", x.fault(), -1);
    }

    void faulty(String text, int kind, int where) {
        QuarrelBridges x = new QuarrelBridges();
        feedAll(x, text);
        due("town of '" + text + "'", x.town(), -10 - kind);
        due("fault of '" + text + "'", x.fault(), where);
        due("letters behind '" + text + "'", x.told(5), 0);
        due("bridges behind '" + text + "'", x.told(0), 0);
    }

    static void feedAll(QuarrelBridges x, String text) {
        for (int i = 0; i < text.length(); i++) {
            x.feed(text.charAt(i));
        }
    }

    /** An object whose town is told by the text; a fault in it is the test's own. */
    static QuarrelBridges of(String text) {
        QuarrelBridges x = new QuarrelBridges();
        feedAll(x, text);
        if (x.town() < 0) {
            throw new IllegalStateException("fault at " + x.fault() + " in " + text);
        }
        return x;
    }
}
