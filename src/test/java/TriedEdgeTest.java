/** "Terms", section 3 up to FLEET, and promises 16 to 26: each boundary that a sentence names, from both of its sides. */
public final class TriedEdgeTest {
    private static final int NONE = QuarrelBridges.NONE;
    private static final int UNKNOWN = QuarrelBridges.UNKNOWN;
    private static final int OUTSIDE = QuarrelBridges.OUTSIDE;
    private static final int NOT = QuarrelBridges.NOT;
    private static final int ABOUT = -2;
    private static final int BILLION = 1000000000;

    private static final Check check = new Check();

    public static void main(String[] args) {
        couldByWOrMore();
        couldIfStuck();
        couldAsNow();
        couldWhereverItIs();
        bestThemeByMinutes();
        bestThemeByCost();
        bestThemeTheLeast();
        bestThemeNone();
        whoOfBridgesUpToM();
        whoCostsLeast();
        whoOfLikeOnes();
        whoNone();
        whoWithoutTheReconciled();
        whoAndHireOnBestThemes();
        orderOfNone();
        orderByTheVeryMinute();
        orderOfAllSeven();
        orderWithoutThoseThatLie();
        orderWithoutReconciling();
        orderOfLikeOnes();
        orderThatEnds();
        orderOfThoseThatWait();
        orderFromNow();
        orderUpToTheLastBridge();
        toldHerByMinutes();
        toldHerBeyondMinutes();
        toldHerJustThen();
        toldHerWithoutReconciling();
        toldHerOfAll();
        toldHerTheLastPair();
        toldHerAsTold();
        lastsTillReconciled();
        lastsForEver();
        wornOutOfLikeOnes();
        wornOutOnItsLongest();
        wornOutNone();
        carriedHalves();
        carriedToNothing();
        carriedBehindEmptyOnes();
        carriedToBridgeZero();
        hireOfLikeOnes();
        hireOfOneAlone();
        hireNone();
        midstreamMinutes();
        midstreamOdds();
        midstreamLessByGrievance();
        fleetNoLess();
        fleetFewest();
        fleetOfLikeOnes();
        fleetNone();
        check.finish();
    }

    /** Couple 0 is RECONCILED at bridge 0 in the one minute of barge 0; it had 2. */
    private static QuarrelBridges afterOneIsReconciled(String others) {
        QuarrelBridges x = Check.of("b2,2;c2 2;" + others + "v0 9;");
        x.send(0, 0, 0);
        x.pass(0);
        check.due("couple 0 is reconciled", x.told(7), 1);
        return x;
    }

    private static void couldByWOrMore() {
        check.sentence("COULD: MINUTES in which a COUPLE opens a BRIDGE on a THEME; what it costs in GRIEVANCE");
        // 99 on 9: 18, of 81: 17, of 64: 15, of 49: 13.
        QuarrelBridges x = Check.of("b1,18,19,35,36,60;c99 9;");
        int[] minutes = {1, 1, 2, 2, 3, 4};
        int[] cost = {18, 18, 35, 35, 50, 63};
        for (int b = 0; b < 6; b++) {
            check.due("minutes at " + b, x.could(0, b, 0, 0), minutes[b]);
            check.due("cost at " + b, x.could(0, b, 0, 1), cost[b]);
        }
        QuarrelBridges just = Check.of("b6,5;c6 3;");
        check.due("RECONCILED just then: it opens", just.could(0, 0, 0, 0), 2);
        check.due("by all it has", just.could(0, 0, 0, 1), 6);
        check.due("no more than GRIEVANCE", just.could(0, 1, 0, 1), 6);
    }

    private static void couldIfStuck() {
        check.sentence("NONE: STUCK; NONE (RECONCILED ones, too)");
        QuarrelBridges x = Check.of("b7,6,1,4,3;t2;c6 3,0;c12 0,0;c0 9,9;");
        check.due("reconciled ahead of 7", x.could(0, 0, 0, 0), NONE);
        check.due("cost of that", x.could(0, 0, 0, 1), NONE);
        check.due("6 is come to", x.could(0, 1, 0, 0), 2);
        check.due("a stamp of 0 at once", x.could(0, 2, 1, 0), NONE);
        check.due("a stamp of 0 ahead of 4", x.could(1, 3, 0, 0), NONE);
        check.due("3 is come to", x.could(1, 4, 0, 0), 3);
        check.due("no grievance", x.could(2, 2, 0, 1), NONE);
        check.due("a reconciled one", afterOneIsReconciled("").could(0, 1, 0, 0), NONE);
        check.due("its cost", afterOneIsReconciled("").could(0, 1, 0, 1), NONE);
    }

    private static void couldAsNow() {
        check.sentence("GRIEVANCE as now");
        QuarrelBridges x = Check.of("b10;c5 5;");
        check.due("of 5", x.could(0, 0, 0, 0), NONE);
        x.grieve(0, 4);
        check.due("of 9", x.could(0, 0, 0, 0), NONE);
        x.grieve(0, 1);
        check.due("of 10: 6 and 4", x.could(0, 0, 0, 0), 2);
        x.undo();
        check.due("of 9 again", x.could(0, 0, 0, 0), NONE);
    }

    private static void couldWhereverItIs() {
        check.sentence("in which a COUPLE opens a BRIDGE, wherever it is");
        QuarrelBridges x = Check.of("b10,5;t2;c50 5,0;c50 5,0;");
        x.send(0, 1, 1);
        x.send(1, 0, 0);
        check.due("another bridge, another theme", x.could(0, 0, 0, 0), 1);
        check.due("best", x.bestTheme(0, 0), 0);
    }

    private static void bestThemeByMinutes() {
        check.sentence("BEST THEME: by which these MINUTES are fewest");
        // W 10 of 50: on 4: 9 and 8 is 17; on 5: 10; on 9: 14 in one minute, too; on 0: 5, 4, 4 is 13.
        check.due("one minute ahead of two", Check.of("b10;t3;c50 4,0,9;").bestTheme(0, 0), 2);
        check.due("though it costs more", Check.of("b10;t2;c50 0,9;").bestTheme(0, 0), 1);
        check.due("the last of five", Check.of("b10;t5;c50 0,0,0,0,5;").bestTheme(0, 0), 4);
    }

    private static void bestThemeByCost() {
        check.sentence("of like ones that costs least");
        check.due("10 ahead of 14", Check.of("b10;t3;c50 9,5,6;").bestTheme(0, 0), 1);
        // W 10 of 40: on 5: 9 and 8; on 1: 5 and 4 is 9 in two; on 2: 6 and 5 is 11 in two; on 3: 7 and 6 is 13 in two.
        check.due("11 ahead of 13 and 17", Check.of("b10;t4;c40 5,3,1,2;").bestTheme(0, 0), 3);
    }

    private static void bestThemeTheLeast() {
        check.sentence("then the least");
        check.due("all alike", Check.of("b10;t5;c50 5,5,5,5,5;").bestTheme(0, 0), 0);
        check.due("the last two alike", Check.of("b10;t3;c50 9,5,5;").bestTheme(0, 0), 1);
        check.due("alike by what it has", Check.of("b5;t2;c5 9,8;").bestTheme(0, 0), 0);
    }

    private static void bestThemeNone() {
        check.sentence("BEST THEME; NONE");
        check.due("stuck on each", Check.of("b10;t2;c9 9,0;").bestTheme(0, 0), NONE);
        check.due("not stuck on the last", Check.of("b9;t2;c9 0,9;").bestTheme(0, 0), 1);
        check.due("no grievance", Check.of("b1;c0 9;").bestTheme(0, 0), NONE);
        check.due("a reconciled one", afterOneIsReconciled("").bestTheme(0, 1), NONE);
    }

    private static void whoOfBridgesUpToM() {
        check.sentence("WHO: one for each BRIDGE 0 to m; b = NONE how much, else the COUPLE of a BRIDGE 0 .. m");
        QuarrelBridges x = Check.of("b5,6,7,8,9,10;c50 0;c50 1;c50 2;c50 3;c50 4;c50 5;");
        int sum = 0;
        for (int m = 0; m < 6; m++) {
            sum += 5 + m;
            check.due("how much to " + m, x.who(m, NONE), sum);
            for (int b = 0; b <= m; b++) {
                check.due("of " + b + ", to " + m, x.who(m, b), b);
            }
            check.due("b above m", x.who(m, m + 1), UNKNOWN);
        }
        check.due("m -1", x.who(-1, NONE), UNKNOWN);
        check.due("m 6", x.who(6, NONE), UNKNOWN);
    }

    private static void whoCostsLeast() {
        check.sentence("by which what they cost together is least");
        // Bridge 0 (W 5): 5 by couple 0, 9 by couple 1. Bridge 1 (W 1): 5 by couple 0, 9 by couple 1: alike, 14.
        QuarrelBridges x = Check.of("b5,1;c50 0;c50 4;");
        check.due("how much", x.who(1, NONE), 14);
        check.due("the lesser at bridge 0", x.who(1, 0), 0);
        // Bridge 0 (W 6): 9 by couple 0 (5 and 4), 9 by couple 1. Bridge 1 (W 5): 5 by couple 0, 9 by couple 1.
        QuarrelBridges y = Check.of("b6,5;c50 0;c50 4;");
        check.due("how much", y.who(1, NONE), 14);
        check.due("the greater at bridge 0", y.who(1, 0), 1);
        check.due("the lesser at bridge 1", y.who(1, 1), 0);
        check.due("alone", y.who(0, 0), 0);
    }

    private static void whoOfLikeOnes() {
        check.sentence("of like ones the first (BRIDGE by BRIDGE the lesser COUPLE)");
        QuarrelBridges x = Check.of("b5,5,5,5,5,5;" + "c50 0;".repeat(6));
        for (int b = 0; b < 6; b++) {
            check.due("of " + b, x.who(5, b), b);
        }
        QuarrelBridges y = Check.of("b5,5;c50 1;c50 0;c50 0;c50 0;");
        check.due("the first of those that cost 5", y.who(1, 0), 1);
        check.due("the next of them", y.who(1, 1), 2);
    }

    private static void whoNone() {
        check.sentence("WHO; NONE");
        QuarrelBridges few = Check.of("b5,5,5;c50 0;c50 0;");
        check.due("as many as bridges", few.who(1, NONE), 10);
        check.due("fewer", few.who(2, NONE), NONE);
        for (int b = 0; b < 3; b++) {
            check.due("fewer, of " + b, few.who(2, b), NONE);
        }
        QuarrelBridges stuck = Check.of("b5,60;c50 0;c50 0;c59 9;");
        check.due("nobody opens 60", stuck.who(1, NONE), NONE);
        check.due("nobody opens 60, of 0", stuck.who(1, 0), NONE);
        check.due("bridge 0 alone", stuck.who(0, 0), 0);
        check.due("60 of 60", Check.of("b5,60;c50 0;c60 9;").who(1, NONE), 65);
        check.due("no couples", Check.of("b5;").who(0, NONE), NONE);
    }

    private static void whoWithoutTheReconciled() {
        check.sentence("COUPLES not RECONCILED, as if all were ashore");
        QuarrelBridges x = afterOneIsReconciled("c20 0;c20 0;");
        check.due("the least that is not", x.who(0, 0), 1);
        check.due("both", x.who(1, NONE), 4);
        x.send(2, 0, 0);
        check.due("one is at bridge 0", x.who(0, 0), 1);
        check.due("too few", afterOneIsReconciled("c20 0;").who(1, NONE), NONE);
    }

    private static void whoAndHireOnBestThemes() {
        check.sentence("on BEST THEMES; on their BEST THEME");
        // W 10 of 50: on 5 and on 9 in one minute, which cost 10 and 14; on 0 in three, which cost 13.
        for (String forces : new String[] {"5,9,0", "9,5,0", "0,9,5", "9,0,5", "5,0,9", "0,5,9"}) {
            QuarrelBridges x = Check.of("b10;t3;c50 " + forces + ";");
            check.due("who on " + forces, x.who(0, NONE), 10);
            check.due("hire on " + forces, x.hire(0, 1), 10);
            QuarrelBridges y = Check.of("b10;t3;c50 9,9,9;c50 " + forces + ";");
            check.due("who of two on " + forces, y.who(0, 0), 1);
            check.due("hire of two on " + forces, y.hire(0, 1), 14);
        }
        // The best theme has the fewest minutes, though another one costs less: 14 by 9, not 13 by 0.
        QuarrelBridges z = Check.of("b10;t2;c50 0,9;");
        check.due("who", z.who(0, NONE), 14);
        check.due("hire", z.hire(0, 1), 14);
    }

    private static void orderOfNone() {
        check.sentence("ORDER: i = NONE how many, else the i-th; NONE: not so many");
        QuarrelBridges x = Check.of("b5;c99 1;v0 9;v0 9;");
        check.due("nobody there", x.order(NONE), 0);
        check.due("nobody there, 0", x.order(0), NONE);
        x.send(0, 0, 0);
        check.due("both", x.order(NONE), 2);
        check.due("0", x.order(0), 0);
        check.due("1", x.order(1), 1);
        check.due("2", x.order(2), NONE);
        check.due("-2", x.order(-2), NONE);
        check.due("least", x.order(Integer.MIN_VALUE), NONE);
        check.due("most", x.order(Integer.MAX_VALUE), NONE);
        check.due("no barges", Check.of("b5;c99 1;").order(NONE), 0);
    }

    private static QuarrelBridges oneAMinute(String barges) {
        QuarrelBridges x = Check.of("b5;c99 1;" + barges);
        x.send(0, 0, 0);
        return x;
    }

    private static void row(String what, QuarrelBridges x, int... due) {
        check.due(what + ": how many", x.order(NONE), due.length);
        for (int i = 0; i < due.length; i++) {
            check.due(what + ": " + i, x.order(i), due[i]);
        }
        check.due(what + ": no more", x.order(due.length), NONE);
    }

    private static void orderByTheVeryMinute() {
        check.sentence("rows by which most are IN TIME");
        row("by minutes 1, 2", oneAMinute("v0 1;v0 2;"), 0, 1);
        row("the other way", oneAMinute("v0 2;v0 1;"), 1, 0);
        row("one of two", oneAMinute("v0 1;v0 1;"), 0);
        QuarrelBridges late = oneAMinute("v0 1;v0 1;");
        late.drift(1);
        row("none in time", late);
    }

    private static void orderOfAllSeven() {
        check.sentence("ORDER of BARGES, all seven");
        // 99 on 9: 18, 17, 15, 13, 12, 11, 10 open 5 once each; 3 are left.
        QuarrelBridges x = Check.of("b5;c99 9;v0 7;v0 6;v0 5;v0 4;v0 3;v0 2;v0 1;");
        x.send(0, 0, 0);
        row("from the last", x, 6, 5, 4, 3, 2, 1, 0);
        QuarrelBridges y = Check.of("b5;c99 9;v0 7;v0 7;v0 7;v0 7;v0 7;v0 7;v0 7;");
        y.send(0, 0, 0);
        row("from the first", y, 0, 1, 2, 3, 4, 5, 6);
    }

    private static void orderWithoutThoseThatLie() {
        check.sentence("none of the row lies");
        QuarrelBridges x = Check.of("b5,5;c99 1;v1 9;v0 9;v1 9;v0 9;");
        x.send(0, 0, 0);
        row("nobody at bridge 1", x, 1, 3);
        // 12 on 0: 1, 1, 1, then 0: it opens 3 once, and is stuck then.
        QuarrelBridges y = Check.of("b3;c12 0;v0 9;v0 9;");
        y.send(0, 0, 0);
        row("stuck at the second", y, 0);
    }

    private static void orderWithoutReconciling() {
        check.sentence("nobody is RECONCILED by it");
        for (int grievance = 5; grievance <= 7; grievance++) {
            QuarrelBridges x = Check.of("b6;c" + grievance + " 6;v0 9;");
            x.send(0, 0, 0);
            check.due("of " + grievance, x.order(NONE), grievance > 6 ? 1 : 0);
        }
        // 12 on 6: 7, then of 5: 5, reconciled ahead of 6; 13: 7, then 6 just then.
        QuarrelBridges y = Check.of("b6;c13 6;v0 9;v0 9;");
        y.send(0, 0, 0);
        row("just then at the second", y, 0);
    }

    private static void orderOfLikeOnes() {
        check.sentence("of like ones the first (the lesser BARGE)");
        row("any order", oneAMinute("v0 9;v0 9;v0 9;"), 0, 1, 2);
        row("one must be first", oneAMinute("v0 9;v0 9;v0 1;"), 2, 0, 1);
        row("one must be second", oneAMinute("v0 9;v0 9;v0 2;"), 0, 2, 1);
        row("a late one ahead, where it does no harm", oneAMinuteFrom1("v0 1;v0 3;"), 0, 1);
        row("not where it does", oneAMinuteFrom1("v0 1;v0 2;"), 1);
    }

    private static QuarrelBridges oneAMinuteFrom1(String barges) {
        QuarrelBridges x = oneAMinute(barges);
        x.drift(1);
        return x;
    }

    private static void orderThatEnds() {
        check.sentence("a row that ends ahead of one that goes on");
        row("a late one behind is left", oneAMinute("v0 1;v0 1;v0 1;"), 0);
        row("a late one of a greater number", oneAMinuteFrom1("v0 9;v0 1;"), 0);
    }

    private static void orderOfThoseThatWait() {
        check.sentence("BARGES that neither PASSED nor lie");
        QuarrelBridges x = Check.of("b5,5;c99 1;v0 9;v1 9;v0 1;v0 9;");
        x.send(0, 0, 0);
        x.pass(0);
        x.pass(1);
        x.pass(2);
        check.due("in time", x.told(8), 1);
        check.due("lies", x.told(10), 2);
        check.due("late", x.told(9), 4);
        row("the one that waits", x, 3);
        x.pass(3);
        row("none waits", x);
    }

    private static void orderFromNow() {
        check.sentence("from now, COUPLES, THEMES as they are");
        QuarrelBridges x = Check.of("b5;t2;c50 0,5;v0 2;v0 2;");
        x.send(0, 0, 0);
        // 5, then 4 and 4: the second would come by minute 3.
        row("on theme 0", x, 0);
        x.send(0, 0, 1);
        row("on theme 1", x, 0, 1);
        x.drift(1);
        row("a minute later", x, 0);
        x.drift(1);
        row("two minutes later", x);
    }

    private static void orderUpToTheLastBridge() {
        check.sentence("ORDER of BARGES up to each BRIDGE");
        // Each bridge opens in a minute, so barges take 6, 5, 4, 3, 2, 1.
        QuarrelBridges x = Check.of("b2,2,2,2,2,2;" + "c99 0;".repeat(6) + "v5 21;v4 15;v3 10;v2 6;v1 3;v0 1;");
        for (int c = 0; c < 6; c++) {
            x.send(c, c, 0);
        }
        row("from the shortest on", x, 5, 4, 3, 2, 1, 0);
        x.home(3);
        row("without those that go to bridge 3", x, 5, 4, 3);
        x.home(0);
        row("nobody at bridge 0", x);
        // Barge 0 takes bridge 0 and 1, the others bridge 0 alone: 50 on 0 is 5, then 4 and 4, then 3 and 3.
        QuarrelBridges y = Check.of("b5,5;c50 0;c50 0;v1 6;v0 3;v0 1;");
        y.send(0, 0, 0);
        y.send(1, 1, 0);
        row("the n-th takes as long for each", y, 2, 1, 0);
        QuarrelBridges z = Check.of("b5,5;c50 0;c50 0;v1 5;v0 3;v0 1;");
        z.send(0, 0, 0);
        z.send(1, 1, 0);
        // All three would take till minute 6; 1 by minute 1 and 0 by minute 4 come ahead of 2 and 1.
        row("a minute less is one too few", z, 1, 0);
    }

    private static void toldHerByMinutes() {
        check.sentence("behind just k MINUTES (1 .. 60)");
        // On 3 of 6 it is reconciled behind 2, of 3 behind 1, of 7 behind 3.
        QuarrelBridges x = Check.of("b60;c6 3;c3 3;c7 3;");
        int[] due = {10, 0, 20};
        for (int k = 1; k <= 3; k++) {
            check.due("how many behind " + k, x.toldHer(0, k, NONE), 1);
            check.due("who behind " + k, x.toldHer(0, k, 0), due[k - 1]);
        }
        check.due("behind 4", x.toldHer(0, 4, NONE), 0);
        check.due("behind 4, the first", x.toldHer(0, 4, 0), NONE);
        check.due("behind 4, about", x.toldHer(0, 4, ABOUT), 0);
    }

    private static void toldHerBeyondMinutes() {
        check.sentence("k (1 .. 60)");
        QuarrelBridges x = Check.of("b60;c6 3;");
        check.due("k 0", x.toldHer(0, 0, NONE), OUTSIDE);
        check.due("k 1", x.toldHer(0, 1, NONE), 0);
        check.due("k 60", x.toldHer(0, 60, NONE), 0);
        check.due("k 61", x.toldHer(0, 61, NONE), OUTSIDE);
        check.due("k 61, about", x.toldHer(0, 61, ABOUT), OUTSIDE);
        check.due("k 0 of no bridge", x.toldHer(1, 0, NONE), UNKNOWN);
    }

    private static void toldHerJustThen() {
        check.sentence("a QUARREL was STUCK (RECONCILED just then: it opens)");
        QuarrelBridges x = Check.of("b5,6,7;c6 3;");
        check.due("W 5", x.toldHer(0, 2, NONE), 0);
        check.due("W 6", x.toldHer(1, 2, NONE), 0);
        check.due("W 7", x.toldHer(2, 2, NONE), 1);
    }

    private static void toldHerWithoutReconciling() {
        check.sentence("its COUPLE RECONCILED");
        // 12 on 0: 1, 1, 1, then a stamp of 0: stuck behind 3, not reconciled.
        QuarrelBridges x = Check.of("b60;c12 0;c0 9;");
        for (int k = 1; k <= 4; k++) {
            check.due("behind " + k, x.toldHer(0, k, NONE), 0);
        }
    }

    private static void toldHerOfAll() {
        check.sentence("all pairs of COUPLE and THEME: how many; the i-th (10 times the COUPLE and the THEME; rising); ABOUT");
        QuarrelBridges x = Check.of("b60;t5;" + "c1 9,9,9,9,9;".repeat(6));
        check.due("how many", x.toldHer(0, 1, NONE), 30);
        for (int i = 0; i < 30; i++) {
            check.due("pair " + i, x.toldHer(0, 1, i), 10 * (i / 5) + i % 5);
        }
        check.due("pair 30", x.toldHer(0, 1, 30), NONE);
        check.due("pair of most", x.toldHer(0, 1, Integer.MAX_VALUE), NONE);
        check.due("pair -3", x.toldHer(0, 1, -3), NONE);
        check.due("pair of least", x.toldHer(0, 1, Integer.MIN_VALUE), NONE);
        check.due("about", x.toldHer(0, 1, ABOUT), 31);
    }

    private static void toldHerTheLastPair() {
        check.sentence("ABOUT: their THEMES (a SET)");
        QuarrelBridges x = Check.of("b9;t5;" + "c9 9,9,9,9,9;".repeat(5) + "c4 0,0,0,0,2;");
        check.due("how many", x.toldHer(0, 2, NONE), 1);
        check.due("who", x.toldHer(0, 2, 0), 54);
        check.due("no second", x.toldHer(0, 2, 1), NONE);
        check.due("about", x.toldHer(0, 2, ABOUT), 16);
        QuarrelBridges twice = Check.of("b9;t2;c4 9,2;c2 9,1;");
        check.due("one theme of two couples", twice.toldHer(0, 2, ABOUT), 2);
        check.due("two pairs", twice.toldHer(0, 2, NONE), 2);
    }

    private static void toldHerAsTold() {
        check.sentence("GRIEVANCE G as told");
        QuarrelBridges x = Check.of("b7;c6 3;v0 9;");
        x.grieve(0, 50);
        check.due("not as now", x.toldHer(0, 2, 0), 0);
        x.undo();
        x.send(0, 0, 0);
        x.pass(0);
        check.due("reconciled", x.told(7), 1);
        check.due("as told of one that is RECONCILED", x.toldHer(0, 2, 0), 0);
    }

    private static void lastsTillReconciled() {
        check.sentence("LASTS: how many MINUTES a COUPLE can quarrel on a THEME till it is RECONCILED");
        check.due("1 on 9", Check.of("b1;c1 9;").lasts(0, 0), 1);
        check.due("9 on 9", Check.of("b1;c9 9;").lasts(0, 0), 1);
        check.due("10 on 8", Check.of("b1;c10 8;").lasts(0, 0), 2);
        check.due("9 on 1", Check.of("b1;c9 1;").lasts(0, 0), 9);
        // In snow 19 on 2: 1 each.
        check.due("19 on 2 in snow", Check.of("b1;s1;c19 2;").lasts(0, 0), 19);
        int[] dry = {999, 27, 19, 16, 13, 11, 10, 9, 9, 8};
        int[] snowy = {999, 999, 44, 36, 28, 25, 22, 19, 17, 16};
        for (int force = 0; force < 10; force++) {
            check.due("99 on " + force, Check.of("b1;c99 " + force + ";").lasts(0, 0), dry[force]);
            check.due("99 on " + force + " in snow", Check.of("b1;s1;c99 " + force + ";").lasts(0, 0), snowy[force]);
        }
        QuarrelBridges x = Check.of("b1;t5;c9 0,0,0,0,3;");
        check.due("the last theme", x.lasts(0, 4), 3);
        x.grieve(0, 3);
        check.due("as now: 4, 3, 3, 2", x.lasts(0, 4), 4);
    }

    private static void lastsForEver() {
        check.sentence("999: it never is, a STAMP comes to be 0");
        check.due("9 on 0", Check.of("b1;c9 0;").lasts(0, 0), 999);
        check.due("99 on 0", Check.of("b1;c99 0;").lasts(0, 0), 999);
        check.due("0 on 9", Check.of("b1;c0 9;").lasts(0, 0), 999);
        check.due("9 on 1 in snow", Check.of("b1;s1;c9 1;").lasts(0, 0), 999);
        check.due("9 on 2 in snow", Check.of("b1;s1;c9 2;").lasts(0, 0), 9);
        check.due("a reconciled one", afterOneIsReconciled("").lasts(0, 0), NOT);
    }

    private static void wornOutOfLikeOnes() {
        check.sentence("WORN OUT: the COUPLE that lasts least; of like ones the least");
        check.due("the last lasts least", Check.of("b1;c9 1;c9 1;c8 1;").wornOut(), 2);
        check.due("alike", Check.of("b1;c9 1;c8 1;c8 1;").wornOut(), 1);
        check.due("the sixth", Check.of("b1;" + "c9 1;".repeat(5) + "c1 1;").wornOut(), 5);
        check.due("all alike", Check.of("b1;" + "c9 1;".repeat(6)).wornOut(), 0);
        check.due("one of 999", Check.of("b1;c9 0;c9 1;").wornOut(), 1);
        check.due("all of 999", Check.of("b1;c9 0;c9 0;").wornOut(), 0);
    }

    private static void wornOutOnItsLongest() {
        check.sentence("on its best (longest) THEME");
        check.due("its longest is 999", Check.of("b1;t2;c9 9,0;c9 1,1;").wornOut(), 1);
        check.due("its longest is the last", Check.of("b1;t3;c9 9,9,1;c9 2,9,9;").wornOut(), 1);
        check.due("its longest is the first", Check.of("b1;t3;c9 1,9,9;c9 2,9,9;").wornOut(), 1);
    }

    private static void wornOutNone() {
        check.sentence("WORN OUT; NONE; not RECONCILED");
        check.due("no couples", Check.of("b1;").wornOut(), NONE);
        check.due("all reconciled", afterOneIsReconciled("").wornOut(), NONE);
        check.due("but one", afterOneIsReconciled("c9 1;").wornOut(), 1);
        check.due("but one of 999", afterOneIsReconciled("c9 0;").wornOut(), 1);
    }

    /** Couple 0 at bridge 0, the others, of nothing to stamp, at the bridges that are told. */
    private static QuarrelBridges up(int grievance, int... bridges) {
        QuarrelBridges x = Check.of("b9,9,9,9,9,9;c" + grievance + " 9;" + "c0 0;".repeat(5));
        x.send(0, 0, 0);
        for (int i = 0; i < bridges.length; i++) {
            x.send(i + 1, bridges[i], 0);
        }
        return x;
    }

    private static void carriedHalves() {
        check.sentence("to BRIDGE 1 it comes whole; behind a BRIDGE with a COUPLE half of it (cut) goes on");
        QuarrelBridges x = up(79, 1, 2, 3, 4, 5);
        int[] of16 = {0, 16, 8, 4, 2, 1};
        QuarrelBridges y = up(69, 1, 2, 3, 4, 5);
        int[] of15 = {0, 15, 7, 3, 1, 0};
        for (int b = 0; b < 6; b++) {
            check.due("of 16 to " + b, x.carried(b), of16[b]);
            check.due("of 15 to " + b, y.carried(b), of15[b]);
        }
    }

    private static void carriedToNothing() {
        check.sentence("the first BRIDGE (from 1 on) to which 0 comes; NONE");
        check.due("1 to the last", up(79, 1, 2, 3, 4, 5).carried(NONE), NONE);
        check.due("0 to the last", up(69, 1, 2, 3, 4, 5).carried(NONE), 5);
        check.due("0 to bridge 1", up(0, 1).carried(NONE), 1);
        check.due("1, halved at bridge 1", up(1, 1).carried(NONE), 2);
        check.due("1, halved at the last, no bridge behind", up(1, 5).carried(NONE), NONE);
        QuarrelBridges one = Check.of("b9;c0 0;");
        one.send(0, 0, 0);
        check.due("one bridge alone", one.carried(NONE), NONE);
        check.due("no bridge 1", one.carried(1), UNKNOWN);
    }

    private static void carriedBehindEmptyOnes() {
        check.sentence("behind an empty one all of it");
        QuarrelBridges x = up(79, 3);
        int[] due = {0, 16, 16, 16, 8, 8};
        for (int b = 0; b < 6; b++) {
            check.due("to " + b, x.carried(b), due[b]);
        }
        check.due("all the way", x.carried(NONE), NONE);
    }

    private static void carriedToBridgeZero() {
        check.sentence("to BRIDGE 0: 0; NOT: nobody is at BRIDGE 0");
        check.due("to bridge 0", up(79, 1).carried(0), 0);
        QuarrelBridges x = up(79, 1);
        x.home(0);
        for (int b = NONE; b < 6; b++) {
            check.due("nobody, to " + b, x.carried(b), NOT);
        }
        check.due("nobody, to no bridge", x.carried(6), UNKNOWN);
    }

    private static void hireOfLikeOnes() {
        check.sentence("the cheapest has it (of like ones the least), is paid what the next one asks");
        QuarrelBridges x = Check.of("b5;c50 2;c50 0;c50 1;c50 0;");
        check.due("who", x.hire(0, 0), 1);
        check.due("how much, of like ones", x.hire(0, 1), 5);
        QuarrelBridges y = Check.of("b5;c50 2;c50 0;c50 1;");
        check.due("who", y.hire(0, 0), 1);
        check.due("how much", y.hire(0, 1), 6);
        QuarrelBridges first = Check.of("b5;c50 0;c50 3;c50 1;c50 2;");
        check.due("who", first.hire(0, 0), 0);
        check.due("the next one comes later", first.hire(0, 1), 6);
        QuarrelBridges last = Check.of("b5;c50 3;c50 1;c50 2;c50 0;");
        check.due("who", last.hire(0, 0), 3);
        check.due("the next one came ahead", last.hire(0, 1), 6);
    }

    private static void hireOfOneAlone() {
        check.sentence("what it asks, if it is alone");
        check.due("one couple", Check.of("b5;c50 0;").hire(0, 1), 5);
        check.due("the other is stuck", Check.of("b5;c4 9;c50 1;").hire(0, 1), 6);
        check.due("the other is reconciled", afterOneIsReconciled("c50 1;").hire(1, 1), 6);
    }

    private static void hireNone() {
        check.sentence("HIRE; NONE");
        check.due("no couples, who", Check.of("b5;").hire(0, 0), NONE);
        check.due("no couples, how much", Check.of("b5;").hire(0, 1), NONE);
        check.due("all stuck, who", Check.of("b5;c4 9;c9 0;").hire(0, 0), NONE);
        check.due("all stuck, how much", Check.of("b5;c4 9;c9 0;").hire(0, 1), NONE);
        check.due("one opens it just then", Check.of("b5;c4 9;c5 9;").hire(0, 0), 1);
        check.due("all reconciled", afterOneIsReconciled("").hire(1, 0), NONE);
    }

    private static void midstreamMinutes() {
        check.sentence("in n MINUTES (0 .. 99)");
        QuarrelBridges x = Check.of("b5;c0 0;");
        check.due("n -1", x.midstream(0, -1, 500), OUTSIDE);
        check.due("n 0", x.midstream(0, 0, 500), BILLION);
        check.due("n 1", x.midstream(0, 1, 500), 500000000);
        long odds = BILLION;
        for (int i = 0; i < 99; i++) {
            odds = odds * 999 / 1000;
        }
        check.due("n 99", x.midstream(0, 99, 1), (int) odds);
        check.due("n 100", x.midstream(0, 100, 1), OUTSIDE);
    }

    private static void midstreamOdds() {
        check.sentence("q of a thousand (0 .. 1000); a BILLION times (1000 less that) / 1000 each (cut)");
        QuarrelBridges x = Check.of("b5;c0 0;");
        check.due("q -1", x.midstream(0, 1, -1), OUTSIDE);
        check.due("q 0", x.midstream(0, 99, 0), BILLION);
        check.due("q 999", x.midstream(0, 1, 999), 1000000);
        check.due("q 999 thrice", x.midstream(0, 3, 999), 1);
        check.due("q 999 four times", x.midstream(0, 4, 999), 0);
        check.due("q 1000, no minute", x.midstream(0, 0, 1000), BILLION);
        check.due("q 1000", x.midstream(0, 1, 1000), 0);
        check.due("q 1001", x.midstream(0, 1, 1001), OUTSIDE);
        check.due("q 1, thrice", x.midstream(0, 3, 1), 997002999);
        // 997002999 times 999 / 1000 is 996005996.001.
        check.due("q 1, four times", x.midstream(0, 4, 1), 996005996);
    }

    private static void midstreamLessByGrievance() {
        check.sentence("q less by GRIEVANCE now (0 at least)");
        QuarrelBridges x = Check.of("b5;c50 0;");
        check.due("q 0", x.midstream(0, 9, 0), BILLION);
        check.due("q 49", x.midstream(0, 9, 49), BILLION);
        check.due("q 50", x.midstream(0, 9, 50), BILLION);
        check.due("q 51", x.midstream(0, 1, 51), 999000000);
        check.due("q 1000", x.midstream(0, 1, 1000), 50000000);
        x.grieve(0, 1);
        check.due("q 51 of 51", x.midstream(0, 1, 51), BILLION);
        check.due("of a reconciled one", afterOneIsReconciled("").midstream(0, 1, 1), 999000000);
    }

    private static void fleetNoLess() {
        check.sentence("GRIEVANCE together is no less than n times all W together (n 1 .. 9)");
        check.due("n 0", Check.of("b1;c9 0;").fleet(0), OUTSIDE);
        check.due("n 10", Check.of("b1;c99 0;").fleet(10), OUTSIDE);
        for (int n = 1; n <= 9; n++) {
            check.due("just as much, n " + n, Check.of("b4,7;c" + 11 * n + " 0;").fleet(n), 1);
            check.due("1 less, n " + n, Check.of("b4,7;c" + (11 * n - 1) + " 0;").fleet(n), NONE);
        }
    }

    private static void fleetFewest() {
        check.sentence("the fewest COUPLES");
        check.due("one of the greatest", Check.of("b9;c5 0;c5 0;c9 0;").fleet(1), 4);
        check.due("the sixth", Check.of("b60;" + "c20 0;".repeat(5) + "c60 0;").fleet(1), 32);
        check.due("all six", Check.of("b60,6;" + "c11 0;".repeat(6)).fleet(1), 63);
        check.due("none at all", Check.of("").fleet(9), 0);
    }

    private static void fleetOfLikeOnes() {
        check.sentence("of like ones the least SET");
        check.due("one of three", Check.of("b9;c8 0;c9 0;c10 0;").fleet(1), 2);
        check.due("two of four", Check.of("b10;c5 0;c4 0;c6 0;c5 0;").fleet(1), 5);
        check.due("all alike", Check.of("b10;" + "c5 0;".repeat(6)).fleet(1), 3);
    }

    private static void fleetNone() {
        check.sentence("FLEET: not RECONCILED; NONE");
        check.due("no couples", Check.of("b1;").fleet(1), NONE);
        check.due("too little", Check.of("b60,60;" + "c19 0;".repeat(6)).fleet(1), NONE);
        check.due("of all there is", Check.of("b60,54;" + "c19 0;".repeat(6)).fleet(1), 63);
        check.due("without the reconciled", afterOneIsReconciled("c4 0;").fleet(1), 2);
        check.due("too little without it", afterOneIsReconciled("c3 0;").fleet(1), NONE);
    }
}
