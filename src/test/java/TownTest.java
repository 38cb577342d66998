/** Promises 1 to 9: the town, its text and the first fault. */
public final class TownTest {
    private static final int UNKNOWN = QuarrelBridges.UNKNOWN;
    private static final int OUTSIDE = QuarrelBridges.OUTSIDE;
    private static final int FULL = QuarrelBridges.FULL;
    private static final String SIX_COUPLES = "c1 1;c1 1;c1 1;c1 1;c1 1;c1 1;";
    private static final String SEVEN_BARGES = "v0 1;v0 1;v0 1;v0 1;v0 1;v0 1;v0 1;";

    private static final Check check = new Check();

    public static void main(String[] args) {
        newObject();
        feeding();
        wholeTown();
        townsThatStand();
        faultsThatCannotStand();
        faultsOfNumbers();
        faultsOfTooMany();
        faultChangesNothing();
        newTownForgets();
        refusals();
        check.finish();
    }

    private static void newObject() {
        QuarrelBridges x = new QuarrelBridges();
        for (int what = 0; what <= 13; what++) {
            check.due("new told " + what, x.told(what), what == 1 ? 1 : 0);
        }
        check.due("new fault", x.fault(), -1);
        check.due("new bridge", x.bridge(0, 0), UNKNOWN);
        check.due("new couple", x.couple(0, 0), UNKNOWN);
        check.due("new force", x.force(0, 0), UNKNOWN);
        check.due("new barge", x.barge(0, 0), UNKNOWN);
        check.due("new seed", x.seed(0), 0);
    }

    private static void feeding() {
        QuarrelBridges x = new QuarrelBridges();
        check.due("feed -1", x.feed(-1), OUTSIDE);
        check.due("feed 256", x.feed(256), OUTSIDE);
        check.due("feed 0", x.feed(0), 1);
        check.due("feed 255", x.feed(255), 2);
        check.due("told 5", x.told(5), 2);
        check.due("town of odd letters", x.town(), -11);
        check.due("its fault", x.fault(), 0);
        for (int i = 1; i <= 240; i++) {
            check.due("feed", x.feed(' '), i);
        }
        check.due("feed 241st", x.feed(' '), FULL);
        check.due("feed 241st outside", x.feed(300), OUTSIDE);
        check.due("told 5 full", x.told(5), 240);
        check.due("town of blanks", x.town(), 0);
        check.due("told 5 emptied", x.told(5), 0);
        check.due("feed again", x.feed('b'), 1);
    }

    private static void wholeTown() {
        QuarrelBridges x = Check.of(" b 7 , 60,1 ; s1;t 3;v2 300;c 0 1,2 , 3;c99  9,0,4;v 0 1;");
        int[] told = {3, 3, 2, 2, 1, 0, 0, 0, 0, 0, 0, 99, 0, 0};
        for (int what = 0; what < told.length; what++) {
            check.due("told " + what, x.told(what), told[what]);
        }
        int[] needs = {7, 60, 1};
        for (int b = 0; b < 3; b++) {
            check.due("W", x.bridge(b, 0), needs[b]);
            check.due("nobody there", x.bridge(b, 1), -1);
        }
        int[] couple = {99, 99, -1, 0, 0};
        for (int what = 0; what < 5; what++) {
            check.due("couple 1, " + what, x.couple(1, what), couple[what]);
        }
        int[] forces = {1, 2, 3, 9, 0, 4};
        for (int i = 0; i < 6; i++) {
            check.due("force", x.force(i / 3, i % 3), forces[i]);
        }
        int[] barge = {2, 300, 0, -1, -1};
        for (int what = 0; what < 5; what++) {
            check.due("barge 0, " + what, x.barge(0, what), barge[what]);
        }
        check.due("barge 1 M", x.barge(1, 0), 0);
        check.due("barge 1 D", x.barge(1, 1), 1);
    }

    private static void townsThatStand() {
        check.stands("", 0);
        check.stands("   ", 0);
        check.stands("b1;", 1);
        check.stands("b001;", 1);
        check.stands("  b60 ;  ", 1);
        check.stands("b1,1,1,1,1,1;", 6);
        check.stands("b1;t5;c99 9,9,9,9,9;", 1);
        check.stands("b1;t1;s0;c0 0;v0 300;", 1);
        check.stands("b1;" + SIX_COUPLES + SEVEN_BARGES, 1);
        check.stands("b1,1;v1 1;t2;", 2);
        check.stands("b1;s1;v0 1;c1 1;c2 3;", 1);
    }

    private static void faultsThatCannotStand() {
        check.faulty("x", 1, 0);
        check.faulty("1", 1, 0);
        check.faulty(";", 1, 0);
        check.faulty("\t", 1, 0);
        check.faulty("t1;b1;", 1, 0);
        check.faulty("  s1;", 1, 2);
        check.faulty("c1 1;", 1, 0);
        check.faulty("v0 1;", 1, 0);
        check.faulty("B1;", 1, 0);
        check.faulty("b", 1, 1);
        check.faulty("b  ", 1, 3);
        check.faulty("b;", 1, 1);
        check.faulty("b1", 1, 2);
        check.faulty("b1  ", 1, 4);
        check.faulty("b1b", 1, 2);
        check.faulty("b1,", 1, 3);
        check.faulty("b1,;", 1, 3);
        check.faulty("b1 2;", 1, 3);
        check.faulty("b1 1000;", 1, 3);
        check.faulty("b1,1,1,1,1,1 ,1;", 1, 13);
        check.faulty("b1,1,1,1,1,1,1000;", 1, 12);
        check.faulty("b1;;", 1, 3);
        check.faulty("b1;z", 1, 3);
        check.faulty("b1;t", 1, 4);
        check.faulty("b1;t,", 1, 4);
        check.faulty("b1;t1,", 1, 5);
        check.faulty("b1;c1", 1, 5);
        check.faulty("b1;c1;", 1, 5);
        check.faulty("b1;c1,1;", 1, 5);
        check.faulty("b1;c1 ;", 1, 6);
        check.faulty("b1;c1 1", 1, 7);
        check.faulty("b1;c1 1 ,1;", 1, 8);
        check.faulty("b1;c1 1 1;", 1, 8);
        check.faulty("b1;t2;c1 1;", 1, 10);
        check.faulty("b1;t2;c1 1 ;", 1, 11);
        check.faulty("b1;t2;c1 1 1;", 1, 11);
        check.faulty("b1;t2;c1 1", 1, 10);
        check.faulty("b1;t2;c1 1,1,1;", 1, 12);
        check.faulty("b1;t2;c1 1,;", 1, 11);
        check.faulty("b1;v0;", 1, 5);
        check.faulty("b1;v0,1;", 1, 5);
        check.faulty("b1;v0 1", 1, 7);
        check.faulty("b1;s", 1, 4);
        check.faulty("b1;s;", 1, 4);
        check.faulty("b1;s1", 1, 5);
        check.faulty("b1;-", 1, 3);
    }

    private static void faultsOfNumbers() {
        check.faulty("b0;", 2, 1);
        check.faulty("b 61;", 2, 2);
        check.faulty("b1,0;", 2, 3);
        check.faulty("b0001;", 2, 1);
        check.faulty("b1000", 2, 1);
        check.faulty("b4294967297;", 2, 1);
        check.faulty("b1;t0;", 2, 4);
        check.faulty("b1;t6;", 2, 4);
        check.faulty("b1;c100 1;", 2, 4);
        check.faulty("b1;c1 10;", 2, 6);
        check.faulty("b1;c405;", 2, 4);
        check.faulty("b1;t2;c1 1,10;", 2, 11);
        check.faulty("b1;v1 1;", 2, 4);
        check.faulty("b1,1;v2 1;", 2, 6);
        check.faulty("b1;v0 0;", 2, 6);
        check.faulty("b1;v0 301;", 2, 6);
        check.faulty("b1;s2;", 2, 4);
        check.faulty("b1;s0000;", 2, 4);
    }

    private static void faultsOfTooMany() {
        check.faulty("b1;b", 3, 3);
        check.faulty("b1;  b1;", 3, 5);
        check.faulty("b1;t1;t1;", 3, 6);
        check.faulty("b1;c1 1;t1;", 3, 8);
        check.faulty("b1;s0;s0;", 3, 6);
        check.faulty("b1;" + SIX_COUPLES + "c", 3, 33);
        check.faulty("b1;" + SIX_COUPLES + "v0 1;c1 1;", 3, 38);
        check.faulty("b1;" + SEVEN_BARGES + "v", 3, 38);
        check.faulty("b1;" + SIX_COUPLES + "tx", 3, 33);
    }

    private static void faultChangesNothing() {
        QuarrelBridges x = Check.of("b5;t2;c50 1,2;v0 9;");
        x.send(0, 0, 1);
        x.write(0, 4);
        x.keep(0);
        x.grieve(0, 1);
        x.seed(77);
        Check.feedAll(x, "b5,6;c7 7;s2;");
        check.due("town", x.town(), -12);
        check.due("fault", x.fault(), 11);
        int[] told = {1, 2, 1, 1, 0, 0, 0, 0, 0, 0, 0, 51, 1, 1};
        for (int what = 0; what < told.length; what++) {
            check.due("told " + what + " behind a fault", x.told(what), told[what]);
        }
        check.due("W", x.bridge(0, 0), 5);
        check.due("there", x.bridge(0, 1), 0);
        check.due("G", x.couple(0, 1), 50);
        check.due("force", x.force(0, 1), 2);
        check.due("seed", x.seed(0), 77);
        check.due("goBack", x.goBack(0), 1);
        check.due("grievance", x.couple(0, 0), 50);
        check.due("town again", x.town(), 0);
        check.due("no fault", x.fault(), -1);
    }

    private static void newTownForgets() {
        QuarrelBridges x = Check.of("b5,5;t2;c50 1,2;c3 1,1;v0 9;v1 9;s1;");
        x.send(0, 0, 1);
        x.send(1, 1, 1);
        x.pass(0);
        x.pass(1);
        x.write(0, 4);
        x.seed(5);
        x.keep(0);
        x.keep(1);
        x.grieve(0, 1);
        Check.feedAll(x, "b9,8;c20 3;c7 4;v1 8;v0 7;");
        check.due("town", x.town(), 2);
        int[] told = {2, 1, 2, 2, 0, 0, 0, 0, 0, 0, 0, 27, 0, 0};
        for (int what = 0; what < told.length; what++) {
            check.due("told " + what + " of a new town", x.told(what), told[what]);
        }
        check.due("goBack 0", x.goBack(0), QuarrelBridges.NOT);
        check.due("goBack 1", x.goBack(1), QuarrelBridges.NOT);
        check.due("undo", x.undo(), QuarrelBridges.NOT);
        check.due("seed stays", x.seed(0), 5);
        check.due("nobody there", x.bridge(0, 1), -1);
        check.due("theme 0", x.couple(0, 3), 0);
        check.due("ashore", x.couple(0, 2), -1);
        check.due("waits", x.barge(0, 2), 0);
        check.due("lies nowhere", x.barge(1, 3), -1);
        check.due("passed never", x.barge(0, 4), -1);
        check.due("force", x.force(1, 0), 4);
        check.due("empty town", x.town(), 0);
        check.due("no themes told", x.told(1), 1);
        check.due("no couples", x.told(2), 0);
        check.due("no grievance", x.told(11), 0);
    }

    private static void refusals() {
        QuarrelBridges x = Check.of("b5,6;t2;c50 1,2;v0 9;");
        check.due("told -1", x.told(-1), OUTSIDE);
        check.due("told 14", x.told(14), OUTSIDE);
        check.due("bridge 2", x.bridge(2, 0), UNKNOWN);
        check.due("bridge -1", x.bridge(-1, 0), UNKNOWN);
        check.due("bridge 2, 9", x.bridge(2, 9), UNKNOWN);
        check.due("bridge what 2", x.bridge(0, 2), OUTSIDE);
        check.due("bridge what -1", x.bridge(0, -1), OUTSIDE);
        check.due("couple 1", x.couple(1, 0), UNKNOWN);
        check.due("couple -1", x.couple(-1, 9), UNKNOWN);
        check.due("couple what 5", x.couple(0, 5), OUTSIDE);
        check.due("couple what -1", x.couple(0, -1), OUTSIDE);
        check.due("force c", x.force(1, 0), UNKNOWN);
        check.due("force c least", x.force(Integer.MIN_VALUE, 0), UNKNOWN);
        check.due("force t", x.force(0, 2), UNKNOWN);
        check.due("force t -1", x.force(0, -1), UNKNOWN);
        check.due("barge 1", x.barge(1, 0), UNKNOWN);
        check.due("barge -1", x.barge(-1, 7), UNKNOWN);
        check.due("barge what 5", x.barge(0, 5), OUTSIDE);
        check.due("barge what -1", x.barge(0, -1), OUTSIDE);
    }
}
