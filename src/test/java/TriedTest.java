/** Promises 16 to 26: what is tried; nothing changes by it. */
public final class TriedTest {
    private static final int UNKNOWN = QuarrelBridges.UNKNOWN;
    private static final int OUTSIDE = QuarrelBridges.OUTSIDE;
    private static final int NOT = QuarrelBridges.NOT;
    private static final String TOWN = "b20,8,30;t2;c40 5,2;c25 0,9;c99 1,0;c6 3,3;v0 10;v1 9;v2 60;v0 3;";

    private static final Check check = new Check();

    public static void main(String[] args) {
        coulds();
        bestThemes();
        whos();
        orders();
        ordersOfLateOnes();
        toldHers();
        lasting();
        wornOuts();
        carriedUp();
        hires();
        midstreams();
        fleets();
        check.finish();
    }

    /** Couple 3 is reconciled at bridge 0, and goes ashore. */
    private static QuarrelBridges withOneReconciled() {
        QuarrelBridges x = Check.of(TOWN);
        x.send(3, 0, 0);
        x.pass(0);
        return x;
    }

    private static void coulds() {
        QuarrelBridges x = Check.of(TOWN);
        check.due("minutes", x.could(0, 0, 0, 0), 3);
        check.due("cost", x.could(0, 0, 0, 1), 24);
        check.due("cost of all there is", Check.of("b6;c6 3;").could(0, 0, 0, 1), 6);
        check.due("stuck", x.could(3, 1, 0, 1), -1);
        check.due("stamps of 0", x.could(1, 0, 0, 0), -1);
        check.due("nothing spent", x.couple(0, 0), 40);
        check.due("nothing to undo", x.told(13), 0);
        check.due("couple", x.could(4, 0, 0, 9), UNKNOWN);
        check.due("bridge", x.could(0, 3, 0, 9), UNKNOWN);
        check.due("theme", x.could(0, 0, 2, 9), UNKNOWN);
        check.due("what", x.could(0, 0, 0, 2), OUTSIDE);
        check.due("what -1", x.could(0, 0, 0, -1), OUTSIDE);
        x.grieve(0, 9);
        check.due("as now", x.could(0, 0, 0, 1), 26);
        QuarrelBridges y = withOneReconciled();
        check.due("reconciled", y.could(3, 1, 0, 0), -1);
        check.due("reconciled, what", y.could(3, 1, 0, 2), OUTSIDE);
    }

    private static void bestThemes() {
        QuarrelBridges x = Check.of("b10;t5;c90 1,3,2,1,1;c5 1,5,9,9,9;");
        // 10, 12, 11 and 10 all open it in one minute: the cheapest, then the least theme.
        check.due("cheapest, then least", x.bestTheme(0, 0), 0);
        check.due("none", x.bestTheme(1, 0), -1);
        QuarrelBridges y = Check.of("b10;t3;c50 2,6,5;");
        // 7 and 6 in two minutes; 11 in one; 10 in one.
        check.due("fewest minutes, then cheapest", y.bestTheme(0, 0), 2);
        check.due("couple", y.bestTheme(1, 0), UNKNOWN);
        check.due("bridge", y.bestTheme(0, 1), UNKNOWN);
        check.due("couple -1", y.bestTheme(-1, 0), UNKNOWN);
        QuarrelBridges z = Check.of("b2,1;c2 1;v0 9;");
        check.due("ahead of it", z.bestTheme(0, 1), 0);
        z.send(0, 0, 0);
        z.pass(0);
        check.due("reconciled", z.bestTheme(0, 1), -1);
    }

    private static void whos() {
        QuarrelBridges x = Check.of(TOWN);
        check.due("how much", x.who(2, -1), 60);
        check.due("of 0", x.who(2, 0), 1);
        check.due("of 1", x.who(2, 1), 2);
        check.due("of 2", x.who(2, 2), 0);
        check.due("m", x.who(3, -1), UNKNOWN);
        check.due("m -1", x.who(-1, -1), UNKNOWN);
        check.due("b above m", x.who(1, 2), UNKNOWN);
        check.due("b -2", x.who(1, -2), UNKNOWN);
        x.send(1, 2, 0);
        check.due("as if all were ashore", x.who(2, 0), 1);
        QuarrelBridges alike = Check.of("b5,5,5;c50 0;c50 0;c50 0;c50 0;");
        check.due("alike", alike.who(2, -1), 15);
        for (int b = 0; b < 3; b++) {
            check.due("the first", alike.who(2, b), b);
        }
        QuarrelBridges few = Check.of("b5,5;c50 0;");
        check.due("too few for two", few.who(1, -1), -1);
        check.due("nobody", few.who(1, 0), -1);
        check.due("enough for one", few.who(0, 0), 0);
        QuarrelBridges gone = Check.of("b2,1;c2 1;c40 0;v0 9;");
        gone.send(0, 0, 0);
        check.due("ahead of it", gone.who(0, 0), 0);
        gone.pass(0);
        check.due("without the reconciled", gone.who(0, 0), 1);
        check.due("too few then", gone.who(1, -1), -1);
    }

    private static void orders() {
        QuarrelBridges x = Check.of(TOWN);
        check.due("nobody there", x.order(-1), 0);
        x.send(0, 0, 0);
        check.due("one", x.order(-1), 1);
        check.due("the lesser one", x.order(0), 0);
        check.due("no more", x.order(1), -1);
        check.due("-2", x.order(-2), -1);
        check.due("nothing changes", x.told(6), 0);
        // Each takes a minute at bridge 0 (10, 9, 8, 7): only from the latest tide down are all in time.
        QuarrelBridges y = Check.of("b5;c99 1;v0 3;v0 2;v0 1;");
        y.send(0, 0, 0);
        check.due("all", y.order(-1), 3);
        for (int i = 0; i < 3; i++) {
            check.due("order", y.order(i), 2 - i);
        }
        y.pass(2);
        check.due("the rest", y.order(-1), 2);
        check.due("the rest's first", y.order(0), 1);
        // It opens by 6 just when it is reconciled: not a row.
        QuarrelBridges z = Check.of("b6;c6 6;v0 9;");
        z.send(0, 0, 0);
        check.due("nobody is reconciled by it", z.order(-1), 0);
        z.grieve(0, 1);
        check.due("one more", z.order(-1), 1);
        check.due("without a town", new QuarrelBridges().order(0), -1);
    }

    private static void ordersOfLateOnes() {
        // Barge 0 is late in any case; ahead of barge 1 it does no harm, and it is the lesser one.
        QuarrelBridges x = Check.of("b10;c99 9;v0 1;v0 9;v0 1;");
        x.send(0, 0, 0);
        x.drift(1);
        check.due("row", x.order(-1), 2);
        check.due("row 0", x.order(0), 0);
        check.due("row 1", x.order(1), 1);
        check.due("it ends there", x.order(2), -1);
        // With a tide of 2, barge 1 must go first, and the row ends behind it.
        QuarrelBridges y = Check.of("b10;c99 9;v0 1;v0 2;");
        y.send(0, 0, 0);
        y.drift(1);
        check.due("row", y.order(-1), 1);
        check.due("row 0", y.order(0), 1);
    }

    private static void toldHers() {
        QuarrelBridges x = Check.of(TOWN);
        check.due("how many", x.toldHer(0, 2, -1), 2);
        check.due("first", x.toldHer(0, 2, 0), 30);
        check.due("second", x.toldHer(0, 2, 1), 31);
        check.due("third", x.toldHer(0, 2, 2), -1);
        check.due("about", x.toldHer(0, 2, -2), 3);
        check.due("-3", x.toldHer(0, 2, -3), -1);
        check.due("25 by 11, 10, 4", x.toldHer(2, 3, 0), 11);
        check.due("about theme 1", x.toldHer(2, 3, -2), 2);
        check.due("25 opens 20", x.toldHer(0, 3, -1), 0);
        check.due("about nothing", x.toldHer(0, 3, -2), 0);
        check.due("just then it opens", Check.of("b6;c6 3;").toldHer(0, 2, -1), 0);
        check.due("k 0", x.toldHer(0, 0, -1), OUTSIDE);
        check.due("k 61", x.toldHer(0, 61, -1), OUTSIDE);
        check.due("k 60", x.toldHer(0, 60, -1), 0);
        check.due("bridge", x.toldHer(3, 0, -1), UNKNOWN);
        x.grieve(3, 50);
        check.due("as told", x.toldHer(0, 2, -1), 2);
        check.due("reconciled ones, too", withOneReconciled().toldHer(0, 2, -1), 2);
    }

    private static void lasting() {
        QuarrelBridges x = Check.of(TOWN);
        check.due("40 on 5", x.lasts(0, 0), 6);
        check.due("25 on 0", x.lasts(1, 0), 999);
        check.due("25 on 9", x.lasts(1, 1), 3);
        check.due("couple", x.lasts(4, 0), UNKNOWN);
        check.due("theme", x.lasts(0, 2), UNKNOWN);
        check.due("no grievance", Check.of("b1;c0 9;").lasts(0, 0), 999);
        check.due("1 halved", Check.of("b1;s1;c5 1;").lasts(0, 0), 999);
        check.due("as now", withOneReconciled().lasts(0, 1), 12);
        check.due("reconciled", withOneReconciled().lasts(3, 0), NOT);
        check.due("reconciled, theme", withOneReconciled().lasts(3, 2), UNKNOWN);
    }

    private static void wornOuts() {
        check.due("couple 3", Check.of(TOWN).wornOut(), 3);
        check.due("next one", withOneReconciled().wornOut(), 0);
        check.due("of like ones the least", Check.of("b1;c9 1;c4 2;c2 1;").wornOut(), 1);
        check.due("all last for ever", Check.of("b1;c9 0;c4 0;").wornOut(), 0);
        check.due("on its longest", Check.of("b1;t2;c9 9,0;c9 1,9;").wornOut(), 1);
        check.due("nobody", Check.of("b1;").wornOut(), -1);
    }

    private static void carriedUp() {
        QuarrelBridges x = Check.of("b9,9,9,9,9;c30 0;c9 0;c9 0;");
        check.due("nobody", x.carried(-1), NOT);
        check.due("bridge", x.carried(5), UNKNOWN);
        check.due("bridge -2", x.carried(-2), UNKNOWN);
        x.send(1, 1, 0);
        check.due("nobody at 0", x.carried(1), NOT);
        x.send(0, 0, 0);
        int[] comes = {0, 3, 1, 1, 1};
        for (int b = 0; b < 5; b++) {
            check.due("carried " + b, x.carried(b), comes[b]);
        }
        check.due("all the way", x.carried(-1), -1);
        x.send(2, 3, 0);
        check.due("nothing at 4", x.carried(-1), 4);
        check.due("0 at 4", x.carried(4), 0);
        check.due("1 at 3", x.carried(3), 1);
        x.home(0);
        x.home(1);
        x.send(1, 0, 0);
        check.due("a stamp of 0", x.carried(-1), 1);
        QuarrelBridges one = Check.of("b9;c9 0;");
        one.send(0, 0, 0);
        check.due("one bridge", one.carried(-1), -1);
        check.due("bridge 0", one.carried(0), 0);
        QuarrelBridges snow = Check.of("b9,9;s1;t2;c30 0,9;");
        snow.send(0, 0, 1);
        check.due("on its theme, in snow", snow.carried(1), 6);
    }

    private static void hires() {
        QuarrelBridges x = Check.of(TOWN);
        check.due("who", x.hire(0, 0), 1);
        check.due("how much", x.hire(0, 1), 24);
        check.due("bridge", x.hire(3, 5), UNKNOWN);
        check.due("what", x.hire(0, 2), OUTSIDE);
        check.due("what -1", x.hire(0, -1), OUTSIDE);
        QuarrelBridges alone = Check.of("b9;c1 1;c50 4;");
        check.due("alone", alone.hire(0, 0), 1);
        check.due("is paid what it asks", alone.hire(0, 1), 9);
        QuarrelBridges alike = Check.of("b9;c60 5;c50 4;c50 4;");
        check.due("of like ones the least", alike.hire(0, 0), 1);
        check.due("is paid the same", alike.hire(0, 1), 9);
        QuarrelBridges none = Check.of("b9;c1 1;");
        check.due("nobody", none.hire(0, 0), -1);
        check.due("nothing", none.hire(0, 1), -1);
        QuarrelBridges gone = Check.of("b2;c2 1;c40 0;v0 9;");
        check.due("cheaper or least", gone.hire(0, 0), 0);
        gone.send(0, 0, 0);
        gone.pass(0);
        check.due("not the reconciled", gone.hire(0, 0), 1);
        check.due("alone then", gone.hire(0, 1), 4);
    }

    private static void midstreams() {
        QuarrelBridges x = Check.of(TOWN);
        check.due("odds", x.midstream(0, 10, 100), 538615112);
        check.due("no minutes", x.midstream(3, 0, 1000), 1000000000);
        check.due("no more than grievance", x.midstream(0, 99, 40), 1000000000);
        check.due("one", x.midstream(0, 1, 41), 999000000);
        check.due("q 1000", x.midstream(3, 1, 1000), 6000000);
        check.due("couple", x.midstream(4, 100, 0), UNKNOWN);
        check.due("n -1", x.midstream(0, -1, 0), OUTSIDE);
        check.due("n 100", x.midstream(0, 100, 0), OUTSIDE);
        check.due("q -1", x.midstream(0, 0, -1), OUTSIDE);
        check.due("q 1001", x.midstream(0, 0, 1001), OUTSIDE);
        check.due("reconciled", withOneReconciled().midstream(3, 1, 1000), 0);
    }

    private static void fleets() {
        QuarrelBridges x = Check.of(TOWN);
        check.due("one", x.fleet(1), 4);
        check.due("two", x.fleet(2), 5);
        check.due("three", x.fleet(3), -1);
        check.due("n 0", x.fleet(0), OUTSIDE);
        check.due("n 10", x.fleet(10), OUTSIDE);
        check.due("no bridges", new QuarrelBridges().fleet(9), 0);
        check.due("just as much", Check.of("b11;c50 0;c49 0;").fleet(9), 3);
        check.due("one too few", Check.of("b11;c50 0;c48 0;").fleet(9), -1);
        check.due("of like ones the least", Check.of("b9;c1 0;c9 0;c10 0;").fleet(1), 2);
        check.due("fewest", Check.of("b9;c5 0;c5 0;c10 0;").fleet(1), 4);
        QuarrelBridges gone = Check.of("b2;c2 1;c40 0;v0 9;");
        check.due("couple 0", gone.fleet(1), 1);
        gone.send(0, 0, 0);
        gone.pass(0);
        check.due("couple 1", gone.fleet(1), 2);
    }
}
