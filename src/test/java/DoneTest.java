/** Promises 10 to 15: what is done, by draws, undone. */
public final class DoneTest {
    private static final int UNKNOWN = QuarrelBridges.UNKNOWN;
    private static final int OUTSIDE = QuarrelBridges.OUTSIDE;
    private static final int NOT = QuarrelBridges.NOT;

    private static final Check check = new Check();

    public static void main(String[] args) {
        sending();
        goingHome();
        passingInTime();
        passingLate();
        lying();
        reconciledJustThen();
        stampOfNothing();
        snow();
        grieving();
        drifting();
        undoing();
        refusals();
        check.finish();
    }

    private static void sending() {
        QuarrelBridges x = Check.of("b5,6,7;t2;c50 1,2;c40 3,4;");
        check.due("from ashore", x.send(0, 1, 1), -1);
        check.due("bridge", x.couple(0, 2), 1);
        check.due("theme", x.couple(0, 3), 1);
        check.due("there", x.bridge(1, 1), 0);
        check.due("another is there", x.send(1, 1, 0), NOT);
        check.due("it is where it was", x.couple(1, 2), -1);
        check.due("same bridge, other theme", x.send(0, 1, 0), 1);
        check.due("theme", x.couple(0, 3), 0);
        check.due("same bridge, same theme", x.send(0, 1, 0), 1);
        check.due("to another bridge", x.send(0, 2, 0), 1);
        check.due("left", x.bridge(1, 1), -1);
        check.due("now free", x.send(1, 1, 0), -1);
        check.due("can be undone", x.told(13), 5);
    }

    private static void goingHome() {
        QuarrelBridges x = Check.of("b5,6,7;t2;c50 1,2;c40 3,4;");
        check.due("ashore", x.home(0), NOT);
        x.send(0, 2, 1);
        check.due("home", x.home(0), 2);
        check.due("ashore now", x.couple(0, 2), -1);
        check.due("its theme stays", x.couple(0, 3), 1);
        check.due("nobody there", x.bridge(2, 1), -1);
        check.due("again", x.home(0), NOT);
        check.due("can be undone", x.told(13), 2);
    }

    private static void passingInTime() {
        // 50 with force 1: 6, 5; bridge 0 opens behind 2 minutes; 40 with force 4: 8; bridge 1 behind 1.
        QuarrelBridges x = Check.of("b8,8;t2;c50 1,2;c40 3,4;v1 3;v1 7;v0 300;");
        x.send(0, 0, 0);
        x.send(1, 1, 1);
        check.due("pass", x.pass(0), 3);
        check.due("in time by its last minute", x.barge(0, 2), 1);
        check.due("when", x.barge(0, 4), 3);
        check.due("where", x.barge(0, 3), -1);
        check.due("grievance 0", x.couple(0, 0), 39);
        check.due("grievance 1", x.couple(1, 0), 32);
        check.due("in time", x.told(8), 1);
        check.due("again", x.pass(0), NOT);
        check.due("minutes", x.told(6), 3);
        // 39 with force 1: 4, 4.
        check.due("pass 2", x.pass(2), 5);
        check.due("in time", x.told(8), 5);
    }

    private static void passingLate() {
        QuarrelBridges x = Check.of("b8;c50 1;v0 1;v0 3;");
        x.send(0, 0, 0);
        check.due("pass", x.pass(0), 2);
        check.due("late", x.barge(0, 2), 2);
        check.due("when", x.barge(0, 4), 2);
        check.due("late set", x.told(9), 1);
        check.due("in time set", x.told(8), 0);
        check.due("again", x.pass(0), NOT);
        // 39 with force 1: 4, 4.
        check.due("pass 1", x.pass(1), 4);
        check.due("late by one minute", x.barge(1, 2), 2);
        check.due("late set", x.told(9), 3);
    }

    private static void lying() {
        QuarrelBridges x = Check.of("b8,20;t2;c50 1,2;c6 3,4;v1 9;v1 9;v0 9;");
        x.send(0, 0, 0);
        x.send(1, 1, 0);
        // 2 minutes at bridge 0, then 3 and 3 at bridge 1: reconciled, stuck.
        check.due("pass", x.pass(0), 4);
        check.due("lies", x.barge(0, 2), 3);
        check.due("where", x.barge(0, 3), 1);
        check.due("never passed", x.barge(0, 4), -1);
        check.due("who is reconciled", x.told(7), 2);
        check.due("reconciled", x.couple(1, 4), 1);
        check.due("ashore", x.couple(1, 2), -1);
        check.due("nothing left", x.couple(1, 0), 0);
        check.due("send it", x.send(1, 1, 0), NOT);
        check.due("home", x.home(1), NOT);
        check.due("nobody there", x.pass(1), 6);
        check.due("lies at", x.barge(1, 3), 1);
        check.due("lie", x.told(10), 3);
        check.due("lies for good", x.pass(0), NOT);
        // 31 with force 1: 4, 3, 3.
        check.due("another goes on", x.pass(2), 9);
        check.due("in time", x.told(8), 4);
    }

    private static void reconciledJustThen() {
        QuarrelBridges x = Check.of("b6,1;c6 3;v0 9;v0 9;");
        x.send(0, 0, 0);
        check.due("pass", x.pass(0), 2);
        check.due("it opens", x.barge(0, 2), 1);
        check.due("and it is reconciled", x.told(7), 1);
        check.due("ashore", x.bridge(0, 1), -1);
        check.due("next one", x.pass(1), 2);
        check.due("lies", x.barge(1, 3), 0);
    }

    private static void stampOfNothing() {
        // 25 with force 0: 2, 2, 2 (19), then ten of 1 (9), then 0: it is not reconciled.
        QuarrelBridges x = Check.of("b60,1;c25 0;c0 9;v0 99;v0 99;v1 99;");
        x.send(0, 0, 0);
        check.due("pass", x.pass(0), 13);
        check.due("left", x.couple(0, 0), 9);
        check.due("not reconciled", x.couple(0, 4), 0);
        check.due("still there", x.couple(0, 2), 0);
        check.due("lies", x.barge(0, 3), 0);
        x.home(0);
        x.send(1, 0, 0);
        check.due("no grievance at all", x.pass(1), 13);
        check.due("was not reconciled by a quarrel", x.told(7), 0);
        check.due("lies too", x.told(10), 3);
        check.due("can be grieved", x.grieve(1, 3), 3);
    }

    private static void snow() {
        // 50 with force 2: 7, halved 3; 47: 6, halved 3.
        QuarrelBridges x = Check.of("b6;s1;c50 2;c9 1;v0 9;v0 9;");
        x.send(0, 0, 0);
        check.due("pass", x.pass(0), 2);
        check.due("left", x.couple(0, 0), 44);
        x.home(0);
        x.send(1, 0, 0);
        check.due("1 halved is 0", x.pass(1), 2);
        check.due("stuck", x.barge(1, 2), 3);
        check.due("nothing spent", x.couple(1, 0), 9);
    }

    private static void grieving() {
        QuarrelBridges x = Check.of("b6;c50 2;c2 9;v0 9;");
        check.due("grieve", x.grieve(0, 1), 51);
        check.due("99 at most", x.grieve(0, 99), 99);
        check.due("as told", x.couple(0, 1), 50);
        check.due("v 0", x.grieve(0, 0), OUTSIDE);
        check.due("v 100", x.grieve(0, 100), OUTSIDE);
        check.due("couple 2", x.grieve(2, 0), UNKNOWN);
        x.send(1, 0, 0);
        x.pass(0);
        check.due("reconciled", x.grieve(1, 1), NOT);
        check.due("reconciled, v 0", x.grieve(1, 0), OUTSIDE);
    }

    private static void drifting() {
        QuarrelBridges x = Check.of("b6;c50 2;c2 9;c90 1;v0 9;");
        x.send(1, 0, 0);
        x.pass(0);
        int minutes = x.told(6);
        int[] grievance = {50, 0, 90};
        long seed = 4711;
        x.seed(4711);
        for (int n = 1; n <= 99; n += 7) {
            for (int i = 0; i < n; i++) {
                seed = (seed * 1103515245L + 12345L) % 2147483648L;
                int c = (int) (seed / 65536 % 3);
                seed = (seed * 1103515245L + 12345L) % 2147483648L;
                int more = (int) (seed / 65536 % 10);
                grievance[c] = c == 1 ? 0 : Math.min(99, grievance[c] + more);
            }
            minutes += n;
            check.due("drift " + n, x.drift(n), minutes);
            for (int c = 0; c < 3; c++) {
                check.due("grievance " + c, x.couple(c, 0), grievance[c]);
            }
        }
        check.due("seed", x.seed(0), (int) seed);
        check.due("drift 0", x.drift(0), OUTSIDE);
        check.due("drift 100", x.drift(100), OUTSIDE);
        QuarrelBridges empty = Check.of("b1;v0 1;");
        check.due("no couples", empty.drift(1), NOT);
        check.due("no couples, 0", empty.drift(0), OUTSIDE);
    }

    private static void undoing() {
        QuarrelBridges x = Check.of("b6,6;t2;c50 2,3;c4 9,9;v1 9;v0 9;");
        check.due("nothing", x.undo(), NOT);
        x.send(0, 0, 1);
        x.send(1, 1, 1);
        x.pass(0);
        x.seed(9);
        x.drift(3);
        int seed = x.seed(0);
        x.seed(seed);
        check.due("undo drift", x.undo(), 3);
        check.due("seed stays", x.seed(0), seed);
        check.due("minutes of the pass", x.told(6), 2);
        check.due("undo pass", x.undo(), 2);
        check.due("minutes", x.told(6), 0);
        check.due("nobody is reconciled", x.told(7), 0);
        check.due("it is back", x.couple(1, 2), 1);
        check.due("nobody lies", x.told(10), 0);
        check.due("where", x.barge(0, 3), -1);
        check.due("grievance", x.couple(0, 0), 50);
        check.due("undo send", x.undo(), 1);
        check.due("ashore", x.couple(1, 2), -1);
        check.due("theme", x.couple(1, 3), 0);
        x.home(0);
        check.due("undo home", x.undo(), 1);
        check.due("there again", x.couple(0, 2), 0);
        check.due("refused ones are not kept", x.home(1), NOT);
        check.due("told", x.told(13), 1);
        for (int i = 0; i < 25; i++) {
            x.grieve(0, 1);
        }
        check.due("20 at most", x.told(13), 20);
        for (int i = 19; i >= 0; i--) {
            check.due("undo", x.undo(), i);
            check.due("grievance", x.couple(0, 0), 55 + i);
        }
        check.due("the oldest are lost", x.undo(), NOT);
    }

    private static void refusals() {
        QuarrelBridges x = Check.of("b6,6;t2;c50 2,3;v1 9;");
        check.due("send couple", x.send(1, 0, 0), UNKNOWN);
        check.due("send couple -1", x.send(-1, 0, 0), UNKNOWN);
        check.due("send bridge", x.send(0, 2, 0), UNKNOWN);
        check.due("send bridge -1", x.send(0, -1, 0), UNKNOWN);
        check.due("send theme", x.send(0, 0, 2), UNKNOWN);
        check.due("send theme -1", x.send(0, 0, -1), UNKNOWN);
        check.due("home", x.home(1), UNKNOWN);
        check.due("home -1", x.home(-1), UNKNOWN);
        check.due("pass", x.pass(1), UNKNOWN);
        check.due("pass -1", x.pass(-1), UNKNOWN);
        check.due("grieve -1", x.grieve(-1, 5), UNKNOWN);
        check.due("nothing is kept", x.told(13), 0);
    }
}
