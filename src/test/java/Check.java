/** Counts answers that are not as due, for the tests' mains. */
final class Check {
    private int wrong = 0;
    private int asked = 0;

    void due(String call, int got, int want) {
        asked++;
        if (got != want) {
            wrong++;
            System.out.println(call + " answered " + got + ", due is " + want);
        }
    }

    void holds(String what, boolean so) {
        due(what, so ? 1 : 0, 1);
    }

    void finish() {
        System.out.println(asked + " answers asked, " + wrong + " wrong");
        if (wrong != 0) {
            System.exit(1);
        }
    }

    static void feedAll(QuarrelBridges x, String text) {
        for (int i = 0; i < text.length(); i++) {
            x.feed(text.charAt(i));
        }
    }

    /** An object whose town is told by the text; a fault in it is the test's own. */
    static QuarrelBridges of(String text) {
        QuarrelBridges x = new QuarrelBridges();
        feedAll(x, text);
        if (x.town() < 0) {
            throw new IllegalStateException("fault at " + x.fault() + " in " + text);
        }
        return x;
    }
}
