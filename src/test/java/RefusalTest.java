import java.util.function.Supplier;
import java.util.function.ToIntFunction;

/** Every refusal of every promise: of several the first in the document's order, and what is refused changes nothing. */
public final class RefusalTest {
    private static final int NONE = QuarrelBridges.NONE;
    private static final int UNKNOWN = QuarrelBridges.UNKNOWN;
    private static final int OUTSIDE = QuarrelBridges.OUTSIDE;
    private static final int NOT = QuarrelBridges.NOT;
    private static final int FULL = QuarrelBridges.FULL;
    private static final int LEAST = Integer.MIN_VALUE;
    private static final int MOST = Integer.MAX_VALUE;

    private static final Check check = new Check();

    public static void main(String[] args) {
        theTown();
        ofThings();
        sending();
        goingHome();
        passing();
        grieving();
        drifting();
        fullOfMinutes();
        undoing();
        tryingWhatACoupleCould();
        tryingWho();
        tryingToldHer();
        tryingLastsAndCarried();
        tryingHireAndMidstream();
        tryingFleet();
        nothingChangesByTrying();
        writing();
        seeds();
        images();
        withoutATown();
        check.finish();
    }

    private static void refused(String call, ToIntFunction<QuarrelBridges> asked, int due) {
        Twins.unchanged(check, call, Twins::sceneWithText, asked, due);
    }

    private static void refused(String call, Supplier<QuarrelBridges> made, ToIntFunction<QuarrelBridges> asked, int due) {
        Twins.unchanged(check, call, made, asked, due);
    }

    private static void theTown() {
        check.sentence("feed: OUTSIDE, FULL (240)");
        refused("feed(-1)", x -> x.feed(-1), OUTSIDE);
        refused("feed(256)", x -> x.feed(256), OUTSIDE);
        Supplier<QuarrelBridges> full = () -> {
            QuarrelBridges x = Check.of("b1;c9 9;");
            Check.feedAll(x, "b5;" + " ".repeat(237));
            return x;
        };
        refused("feed(';') of 240", full, x -> x.feed(';'), FULL);
        refused("feed(256) of 240", full, x -> x.feed(256), OUTSIDE);
        check.sentence("told: OUTSIDE");
        refused("told(-1)", x -> x.told(-1), OUTSIDE);
        refused("told(14)", x -> x.told(14), OUTSIDE);
    }

    private static void ofThings() {
        check.sentence("bridge, couple, barge: UNKNOWN, OUTSIDE; force: UNKNOWN");
        for (int none : new int[] {-1, 2, LEAST, MOST}) {
            refused("bridge(" + none + ", 0)", x -> x.bridge(none, 0), UNKNOWN);
            refused("bridge(" + none + ", 9)", x -> x.bridge(none, 9), UNKNOWN);
            refused("bridge(0, " + none + ")", x -> x.bridge(0, none), OUTSIDE);
            refused("force(0, " + none + ")", x -> x.force(0, none), UNKNOWN);
        }
        for (int none : new int[] {-1, 3, LEAST, MOST}) {
            refused("couple(" + none + ", 0)", x -> x.couple(none, 0), UNKNOWN);
            refused("couple(" + none + ", 9)", x -> x.couple(none, 9), UNKNOWN);
            refused("force(" + none + ", 0)", x -> x.force(none, 0), UNKNOWN);
            refused("barge(" + none + ", 0)", x -> x.barge(none, 0), UNKNOWN);
            refused("barge(" + none + ", 9)", x -> x.barge(none, 9), UNKNOWN);
        }
        for (int none : new int[] {-1, 5, LEAST, MOST}) {
            refused("couple(0, " + none + ")", x -> x.couple(0, none), OUTSIDE);
            refused("barge(0, " + none + ")", x -> x.barge(0, none), OUTSIDE);
        }
    }

    private static void sending() {
        check.sentence("send: UNKNOWN, NOT: it is RECONCILED, another one is there");
        for (int none : new int[] {-1, 3, LEAST, MOST}) {
            refused("send(" + none + ", 1, 0)", x -> x.send(none, 1, 0), UNKNOWN);
        }
        for (int none : new int[] {-1, 2, LEAST, MOST}) {
            refused("send(2, " + none + ", 0)", x -> x.send(2, none, 0), UNKNOWN);
            refused("send(2, 1, " + none + ")", x -> x.send(2, 1, none), UNKNOWN);
            refused("send(1, " + none + ", 0), RECONCILED", x -> x.send(1, none, 0), UNKNOWN);
            refused("send(2, 0, " + none + "), another there", x -> x.send(2, 0, none), UNKNOWN);
        }
        refused("send(1, 1, 0), RECONCILED", x -> x.send(1, 1, 0), NOT);
        refused("send(2, 0, 0), another there", x -> x.send(2, 0, 0), NOT);
        refused("send(1, 0, 0), both", x -> x.send(1, 0, 0), NOT);
    }

    private static void goingHome() {
        check.sentence("home: UNKNOWN, NOT: it is ashore");
        refused("home(-1)", x -> x.home(-1), UNKNOWN);
        refused("home(3)", x -> x.home(3), UNKNOWN);
        refused("home(2)", x -> x.home(2), NOT);
        refused("home(1), RECONCILED", x -> x.home(1), NOT);
    }

    private static void passing() {
        check.sentence("pass: UNKNOWN, NOT: it PASSED, lies");
        refused("pass(-1)", x -> x.pass(-1), UNKNOWN);
        refused("pass(3)", x -> x.pass(3), UNKNOWN);
        refused("pass(0), IN TIME", x -> x.pass(0), NOT);
        refused("pass(1), lies", x -> x.pass(1), NOT);
        Supplier<QuarrelBridges> late = () -> {
            QuarrelBridges x = Check.of("b5;c50 5;v0 1;");
            x.send(0, 0, 0);
            x.drift(1);
            x.pass(0);
            return x;
        };
        check.due("late", late.get().barge(0, 2), 2);
        refused("pass(0), LATE", late, x -> x.pass(0), NOT);
    }

    private static void grieving() {
        check.sentence("grieve: UNKNOWN, OUTSIDE, NOT: it is RECONCILED");
        refused("grieve(-1, 1)", x -> x.grieve(-1, 1), UNKNOWN);
        refused("grieve(3, 1)", x -> x.grieve(3, 1), UNKNOWN);
        refused("grieve(3, 0)", x -> x.grieve(3, 0), UNKNOWN);
        for (int none : new int[] {0, -1, 100, LEAST, MOST}) {
            refused("grieve(0, " + none + ")", x -> x.grieve(0, none), OUTSIDE);
            refused("grieve(1, " + none + "), RECONCILED", x -> x.grieve(1, none), OUTSIDE);
        }
        refused("grieve(1, 1), RECONCILED", x -> x.grieve(1, 1), NOT);
        refused("grieve(1, 99), RECONCILED", x -> x.grieve(1, 99), NOT);
    }

    private static void drifting() {
        check.sentence("drift: OUTSIDE, NOT: no COUPLES");
        Supplier<QuarrelBridges> nobody = () -> Check.of("b5;v0 9;");
        for (int none : new int[] {0, -1, 100, LEAST, MOST}) {
            refused("drift(" + none + ")", x -> x.drift(none), OUTSIDE);
            refused("drift(" + none + "), no COUPLES", nobody, x -> x.drift(none), OUTSIDE);
        }
        refused("drift(1), no COUPLES", nobody, x -> x.drift(1), NOT);
        refused("drift(99), no COUPLES", nobody, x -> x.drift(99), NOT);
    }

    /** 909 drifts of 99, and 9: only by more calls than an object is promised for, but not by fewer. */
    private static QuarrelBridges atMinute90000() {
        QuarrelBridges x = Check.of("b5;c50 5;v0 9;v0 9;");
        x.send(0, 0, 0);
        for (int i = 0; i < 909; i++) {
            x.drift(99);
        }
        x.drift(9);
        return x;
    }

    private static QuarrelBridges atMinute90001() {
        QuarrelBridges x = atMinute90000();
        x.pass(0);
        return x;
    }

    private static void fullOfMinutes() {
        check.sentence("pass, drift: FULL: MINUTES are above 90000");
        check.due("minutes", atMinute90000().told(6), 90000);
        check.due("drift at 90000", atMinute90000().drift(1), 90001);
        check.due("drift of 99 at 90000", atMinute90000().drift(99), 90099);
        check.due("pass at 90000", atMinute90000().pass(0), 90001);
        refused("drift(1) at 90001", RefusalTest::atMinute90001, x -> x.drift(1), FULL);
        refused("pass(1) at 90001", RefusalTest::atMinute90001, x -> x.pass(1), FULL);
        refused("drift(0) at 90001", RefusalTest::atMinute90001, x -> x.drift(0), OUTSIDE);
        refused("drift(100) at 90001", RefusalTest::atMinute90001, x -> x.drift(100), OUTSIDE);
        refused("pass(0) at 90001", RefusalTest::atMinute90001, x -> x.pass(0), NOT);
        refused("pass(2) at 90001", RefusalTest::atMinute90001, x -> x.pass(2), UNKNOWN);
    }

    private static void undoing() {
        check.sentence("undo: NOT: none");
        Supplier<QuarrelBridges> kept = () -> {
            QuarrelBridges x = Twins.sceneWithText();
            x.keep(1);
            return x;
        };
        refused("undo() behind keep", kept, x -> x.undo(), NOT);
        refused("undo() behind town", () -> Check.of("b5;c50 5;v0 9;v0 9;"), x -> x.undo(), NOT);
    }

    private static void tryingWhatACoupleCould() {
        check.sentence("could: UNKNOWN, OUTSIDE; bestTheme: UNKNOWN");
        for (int none : new int[] {-1, 3, LEAST, MOST}) {
            refused("could(" + none + ", 0, 0, 0)", x -> x.could(none, 0, 0, 0), UNKNOWN);
            refused("could(" + none + ", 0, 0, 2)", x -> x.could(none, 0, 0, 2), UNKNOWN);
            refused("bestTheme(" + none + ", 0)", x -> x.bestTheme(none, 0), UNKNOWN);
        }
        for (int none : new int[] {-1, 2, LEAST, MOST}) {
            refused("could(0, " + none + ", 0, 0)", x -> x.could(0, none, 0, 0), UNKNOWN);
            refused("could(0, 0, " + none + ", 0)", x -> x.could(0, 0, none, 0), UNKNOWN);
            refused("could(1, " + none + ", 0, 0), RECONCILED", x -> x.could(1, none, 0, 0), UNKNOWN);
            refused("could(0, 0, 0, " + none + ")", x -> x.could(0, 0, 0, none), OUTSIDE);
            refused("could(1, 0, 0, " + none + "), RECONCILED", x -> x.could(1, 0, 0, none), OUTSIDE);
            refused("bestTheme(0, " + none + ")", x -> x.bestTheme(0, none), UNKNOWN);
            refused("bestTheme(1, " + none + "), RECONCILED", x -> x.bestTheme(1, none), UNKNOWN);
        }
    }

    private static void tryingWho() {
        check.sentence("who: UNKNOWN (m, b above m)");
        for (int none : new int[] {-1, 2, LEAST, MOST}) {
            refused("who(" + none + ", NONE)", x -> x.who(none, NONE), UNKNOWN);
            refused("who(" + none + ", 0)", x -> x.who(none, 0), UNKNOWN);
        }
        refused("who(0, 1)", x -> x.who(0, 1), UNKNOWN);
        refused("who(1, 2)", x -> x.who(1, 2), UNKNOWN);
        refused("who(1, most)", x -> x.who(1, MOST), UNKNOWN);
        refused("who(1, -2)", x -> x.who(1, -2), UNKNOWN);
        refused("who(1, least)", x -> x.who(1, LEAST), UNKNOWN);
    }

    private static void tryingToldHer() {
        check.sentence("toldHer: UNKNOWN, OUTSIDE");
        for (int none : new int[] {-1, 2, LEAST, MOST}) {
            refused("toldHer(" + none + ", 1, NONE)", x -> x.toldHer(none, 1, NONE), UNKNOWN);
            refused("toldHer(" + none + ", 0, NONE)", x -> x.toldHer(none, 0, NONE), UNKNOWN);
        }
        for (int none : new int[] {0, -1, 61, LEAST, MOST}) {
            refused("toldHer(0, " + none + ", NONE)", x -> x.toldHer(0, none, NONE), OUTSIDE);
            refused("toldHer(0, " + none + ", -2)", x -> x.toldHer(0, none, -2), OUTSIDE);
            refused("toldHer(0, " + none + ", 0)", x -> x.toldHer(0, none, 0), OUTSIDE);
        }
    }

    private static void tryingLastsAndCarried() {
        check.sentence("lasts: UNKNOWN, NOT: RECONCILED; carried: UNKNOWN, NOT: nobody is at BRIDGE 0");
        refused("lasts(-1, 0)", x -> x.lasts(-1, 0), UNKNOWN);
        refused("lasts(3, 0)", x -> x.lasts(3, 0), UNKNOWN);
        refused("lasts(1, 0), RECONCILED", x -> x.lasts(1, 0), NOT);
        Supplier<QuarrelBridges> nobody = () -> {
            QuarrelBridges x = Twins.sceneWithText();
            x.home(0);
            x.send(2, 1, 0);
            return x;
        };
        for (int none : new int[] {-2, 2, LEAST, MOST}) {
            refused("lasts(0, " + none + ")", x -> x.lasts(0, none), UNKNOWN);
            refused("lasts(1, " + none + "), RECONCILED", x -> x.lasts(1, none), UNKNOWN);
            refused("carried(" + none + ")", x -> x.carried(none), UNKNOWN);
            refused("carried(" + none + "), nobody", nobody, x -> x.carried(none), UNKNOWN);
        }
        for (int b = NONE; b < 2; b++) {
            int bridge = b;
            refused("carried(" + b + "), nobody", nobody, x -> x.carried(bridge), NOT);
        }
    }

    private static void tryingHireAndMidstream() {
        check.sentence("hire: UNKNOWN, OUTSIDE; midstream: UNKNOWN, OUTSIDE");
        for (int none : new int[] {-1, 2, LEAST, MOST}) {
            refused("hire(" + none + ", 0)", x -> x.hire(none, 0), UNKNOWN);
            refused("hire(" + none + ", 2)", x -> x.hire(none, 2), UNKNOWN);
            refused("hire(0, " + none + ")", x -> x.hire(0, none), OUTSIDE);
        }
        for (int none : new int[] {-1, 3, LEAST, MOST}) {
            refused("midstream(" + none + ", 0, 0)", x -> x.midstream(none, 0, 0), UNKNOWN);
            refused("midstream(" + none + ", 100, 1001)", x -> x.midstream(none, 100, 1001), UNKNOWN);
        }
        for (int none : new int[] {-1, 100, LEAST, MOST}) {
            refused("midstream(0, " + none + ", 0)", x -> x.midstream(0, none, 0), OUTSIDE);
        }
        for (int none : new int[] {-1, 1001, LEAST, MOST}) {
            refused("midstream(0, 0, " + none + ")", x -> x.midstream(0, 0, none), OUTSIDE);
        }
    }

    private static void tryingFleet() {
        check.sentence("fleet: OUTSIDE");
        for (int none : new int[] {0, -1, 10, LEAST, MOST}) {
            refused("fleet(" + none + ")", x -> x.fleet(none), OUTSIDE);
        }
    }

    private static void nothingChangesByTrying() {
        check.sentence("TRIED; nothing changes by it");
        for (int i = -3; i < 4; i++) {
            int n = i;
            Twins.unchanged(check, "order(" + n + ")", x -> x.order(n));
            Twins.unchanged(check, "toldHer(1, 1, " + n + ")", x -> x.toldHer(1, 1, n));
            Twins.unchanged(check, "carried(" + n + ")", x -> x.carried(n));
            Twins.unchanged(check, "who(1, " + n + ")", x -> x.who(1, n));
        }
        for (int i = 0; i < 3; i++) {
            int c = i;
            Twins.unchanged(check, "could(" + c + ", 1, 1, 0)", x -> x.could(c, 1, 1, 0));
            Twins.unchanged(check, "could(" + c + ", 1, 0, 1)", x -> x.could(c, 1, 0, 1));
            Twins.unchanged(check, "bestTheme(" + c + ", 1)", x -> x.bestTheme(c, 1));
            Twins.unchanged(check, "lasts(" + c + ", 0)", x -> x.lasts(c, 0));
            Twins.unchanged(check, "midstream(" + c + ", 99, 1000)", x -> x.midstream(c, 99, 1000));
        }
        Twins.unchanged(check, "wornOut()", x -> x.wornOut());
        Twins.unchanged(check, "hire(1, 0)", x -> x.hire(1, 0));
        Twins.unchanged(check, "hire(1, 1)", x -> x.hire(1, 1));
        Twins.unchanged(check, "fleet(2)", x -> x.fleet(2));
        Twins.unchanged(check, "judge()", x -> x.judge());
        Twins.unchanged(check, "fault()", x -> x.fault());
    }

    private static void writing() {
        check.sentence("write: UNKNOWN, OUTSIDE, FULL (15)");
        Supplier<QuarrelBridges> full = () -> {
            QuarrelBridges x = Twins.sceneWithText();
            for (int i = 2; i < 15; i++) {
                x.write(0, i);
            }
            return x;
        };
        for (int none : new int[] {-1, 3, LEAST, MOST}) {
            refused("write(" + none + ", 0)", x -> x.write(none, 0), UNKNOWN);
            refused("write(" + none + ", 100)", x -> x.write(none, 100), UNKNOWN);
            refused("write(" + none + ", 0) of 15", full, x -> x.write(none, 0), UNKNOWN);
        }
        for (int none : new int[] {-1, 100, LEAST, MOST}) {
            refused("write(0, " + none + ")", x -> x.write(0, none), OUTSIDE);
            refused("write(0, " + none + ") of 15", full, x -> x.write(0, none), OUTSIDE);
        }
        refused("write(0, 0) of 15", full, x -> x.write(0, 0), FULL);
        refused("write(2, 99) of 15", full, x -> x.write(2, 99), FULL);
    }

    private static void seeds() {
        check.sentence("seed: OUTSIDE");
        refused("seed(-1)", x -> x.seed(-1), OUTSIDE);
        refused("seed(least)", x -> x.seed(LEAST), OUTSIDE);
    }

    private static void images() {
        check.sentence("keep: UNKNOWN; goBack: UNKNOWN, NOT: it was not kept");
        for (int none : new int[] {-1, 2, 32, LEAST, MOST}) {
            refused("keep(" + none + ")", x -> x.keep(none), UNKNOWN);
            refused("goBack(" + none + ")", x -> x.goBack(none), UNKNOWN);
        }
        refused("goBack(1)", x -> x.goBack(1), NOT);
    }

    private static void withoutATown() {
        check.sentence("a BRIDGE, COUPLE, THEME, BARGE that there is not, of a new object");
        Supplier<QuarrelBridges> made = QuarrelBridges::new;
        refused("bridge", made, x -> x.bridge(0, 0), UNKNOWN);
        refused("couple", made, x -> x.couple(0, 0), UNKNOWN);
        refused("force", made, x -> x.force(0, 0), UNKNOWN);
        refused("barge", made, x -> x.barge(0, 0), UNKNOWN);
        refused("send", made, x -> x.send(0, 0, 0), UNKNOWN);
        refused("home", made, x -> x.home(0), UNKNOWN);
        refused("pass", made, x -> x.pass(0), UNKNOWN);
        refused("grieve", made, x -> x.grieve(0, 1), UNKNOWN);
        refused("drift", made, x -> x.drift(1), NOT);
        refused("undo", made, x -> x.undo(), NOT);
        refused("could", made, x -> x.could(0, 0, 0, 0), UNKNOWN);
        refused("bestTheme", made, x -> x.bestTheme(0, 0), UNKNOWN);
        refused("who", made, x -> x.who(0, NONE), UNKNOWN);
        refused("toldHer", made, x -> x.toldHer(0, 1, NONE), UNKNOWN);
        refused("lasts", made, x -> x.lasts(0, 0), UNKNOWN);
        refused("carried", made, x -> x.carried(0), UNKNOWN);
        refused("carried of NONE", made, x -> x.carried(NONE), NOT);
        refused("hire", made, x -> x.hire(0, 0), UNKNOWN);
        refused("midstream", made, x -> x.midstream(0, 0, 0), UNKNOWN);
        refused("write", made, x -> x.write(0, 0), UNKNOWN);
        refused("goBack", made, x -> x.goBack(0), NOT);
    }
}
