import java.util.Arrays;

/** "Terms", section 2, BY DRAWS and UNDONE, and promises 10 to 15: each boundary that a sentence names, from both of its sides. */
public final class DoneEdgeTest {
    private static final int NONE = QuarrelBridges.NONE;
    private static final int NOT = QuarrelBridges.NOT;

    private static final Check check = new Check();

    public static void main(String[] args) {
        minutesFromZero();
        oneAtMostOnEach();
        stamps();
        stampsInSnow();
        noMoreThanGrievance();
        grievanceIsAsMuchLess();
        reconciledAtZero();
        reconciledForEver();
        toldZeroIsNotReconciled();
        stampOfZero();
        stampOfZeroLater();
        opensByWOrMore();
        reconciledAheadOfThat();
        reconciledJustThen();
        bridgesUpToMOnly();
        bridgesUpToTheLast();
        nobodyThere();
        whatWasSpentIsGone();
        eachOpensAnew();
        byItsVeryMinute();
        sendAnswersWhereItWas();
        homeAnswersWhereItWas();
        passAnswersMinutes();
        grieveByOneToNinetyNine();
        driftByOneToNinetyNine();
        driftOfGrievance();
        driftOfReconciled();
        drawsOfTheSeed();
        undoneTwentyAtMost();
        undoneBehindForgetting();
        undoneEachKind();
        undoneLeavesTheSeed();
        undoneLeavesTheBookAndImages();
        check.finish();
    }

    /** One couple at bridge 0 of a town with one barge to it. */
    private static QuarrelBridges quarrel(int need, int grievance, int force, int snow, int tide) {
        QuarrelBridges x = Check.of("b" + need + ";s" + snow + ";c" + grievance + " " + force + ";v0 " + tide + ";");
        x.send(0, 0, 0);
        return x;
    }

    /** What comes to bridge 1 is the stamp at bridge 0, whole. */
    private static int stamp(int grievance, int force, int snow) {
        QuarrelBridges x = Check.of("b1,1;s" + snow + ";c" + grievance + " " + force + ";");
        x.send(0, 0, 0);
        return x.carried(1);
    }

    private static void minutesFromZero() {
        check.sentence("MINUTES are counted from 0");
        QuarrelBridges x = quarrel(5, 50, 5, 0, 9);
        check.due("ahead of all", x.told(6), 0);
        check.due("behind one", x.pass(0), 1);
        check.due("told", x.told(6), 1);
    }

    private static void oneAtMostOnEach() {
        check.sentence("A COUPLE is at a BRIDGE (one at most on each; all ashore at first), on a THEME");
        QuarrelBridges x = Check.of("b5,5;t2;c9 1,1;c9 1,1;");
        check.due("ashore", x.couple(0, 2), NONE);
        check.due("on theme 0", x.couple(0, 3), 0);
        x.send(0, 0, 1);
        check.due("another there", x.send(1, 0, 0), NOT);
        check.due("still the first", x.bridge(0, 1), 0);
        check.due("the other bridge", x.send(1, 1, 0), NONE);
        check.due("no change of places", x.send(0, 1, 1), NOT);
        x.home(1);
        check.due("free then", x.send(0, 1, 1), 0);
        check.due("and left", x.bridge(0, 1), NONE);
        check.due("there", x.bridge(1, 1), 0);
    }

    private static void stamps() {
        check.sentence("STAMP: FORCE of the THEME and GRIEVANCE / 10");
        int[][] due = {{9, 0, 0}, {10, 0, 1}, {19, 0, 1}, {20, 0, 2}, {99, 0, 9}, {9, 1, 1}, {10, 1, 2}, {89, 9, 17},
            {90, 9, 18}, {99, 9, 18}};
        for (int[] row : due) {
            check.due("stamp of " + row[0] + " on " + row[1], stamp(row[0], row[1], 0), row[2]);
        }
        QuarrelBridges x = Check.of("b1,1;t3;c50 1,2,9;");
        x.send(0, 0, 2);
        check.due("on its theme", x.carried(1), 14);
        x.send(0, 0, 0);
        check.due("on another", x.carried(1), 6);
    }

    private static void stampsInSnow() {
        check.sentence("half of that (cut) in SNOW");
        int[][] due = {{9, 0, 0}, {9, 1, 0}, {9, 2, 1}, {9, 3, 1}, {9, 4, 2}, {10, 0, 0}, {10, 1, 1}, {19, 0, 0},
            {20, 0, 1}, {30, 0, 1}, {99, 0, 4}, {89, 9, 8}, {90, 9, 9}, {99, 9, 9}};
        for (int[] row : due) {
            check.due("stamp of " + row[0] + " on " + row[1], stamp(row[0], row[1], 1), row[2]);
        }
    }

    private static void noMoreThanGrievance() {
        check.sentence("no more than GRIEVANCE");
        int[][] due = {{0, 9, 0, 0}, {1, 9, 0, 1}, {8, 9, 0, 8}, {9, 9, 0, 9}, {10, 9, 0, 10}, {11, 9, 0, 10},
            {0, 9, 1, 0}, {1, 9, 1, 1}, {3, 9, 1, 3}, {4, 9, 1, 4}, {5, 9, 1, 4}};
        for (int[] row : due) {
            check.due("stamp of " + row[0] + " on " + row[1], stamp(row[0], row[1], row[2]), row[3]);
        }
    }

    private static void grievanceIsAsMuchLess() {
        check.sentence("GRIEVANCE is as much less by it");
        // 50 on 4: 9, then of 41: 8, then of 33: 7.
        int[] needs = {9, 10, 17, 18, 24};
        int[] left = {41, 33, 33, 26, 26};
        for (int i = 0; i < needs.length; i++) {
            QuarrelBridges x = quarrel(needs[i], 50, 4, 0, 9);
            x.pass(0);
            check.due("left behind " + needs[i], x.couple(0, 0), left[i]);
        }
    }

    private static void reconciledAtZero() {
        check.sentence("when it comes to 0 by a QUARREL, it is RECONCILED (ashore then)");
        QuarrelBridges one = quarrel(3, 4, 3, 0, 9);
        one.pass(0);
        check.due("1 is left", one.couple(0, 0), 1);
        check.due("not reconciled", one.couple(0, 4), 0);
        check.due("still there", one.couple(0, 2), 0);
        QuarrelBridges none = quarrel(3, 3, 3, 0, 9);
        none.pass(0);
        check.due("0 is left", none.couple(0, 0), 0);
        check.due("reconciled", none.couple(0, 4), 1);
        check.due("ashore", none.couple(0, 2), NONE);
        check.due("nobody there", none.bridge(0, 1), NONE);
        check.due("told", none.told(7), 1);
    }

    private static void reconciledForEver() {
        check.sentence("RECONCILED (ashore then, for ever)");
        QuarrelBridges x = quarrel(3, 3, 3, 0, 9);
        x.pass(0);
        check.due("send", x.send(0, 0, 0), NOT);
        check.due("home", x.home(0), NOT);
        check.due("grieve", x.grieve(0, 9), NOT);
        x.drift(99);
        check.due("grievance behind drift", x.couple(0, 0), 0);
        check.due("reconciled behind drift", x.couple(0, 4), 1);
        x.undo();
        check.due("reconciled behind undo of the drift", x.couple(0, 4), 1);
        x.undo();
        check.due("not behind undo of the pass", x.couple(0, 4), 0);
        check.due("there again", x.couple(0, 2), 0);
    }

    private static void toldZeroIsNotReconciled() {
        check.sentence("it comes to 0 by a QUARREL (a GRIEVANCE told as 0 does not)");
        QuarrelBridges x = quarrel(3, 0, 9, 0, 9);
        check.due("at first", x.couple(0, 4), 0);
        check.due("pass", x.pass(0), 0);
        check.due("lies", x.barge(0, 2), 3);
        check.due("not reconciled", x.couple(0, 4), 0);
        check.due("there", x.couple(0, 2), 0);
        check.due("can be grieved", x.grieve(0, 1), 1);
    }

    private static void stampOfZero() {
        check.sentence("A STAMP of 0: the QUARREL ends ahead of that MINUTE (the BRIDGE is STUCK)");
        QuarrelBridges x = quarrel(1, 9, 0, 0, 9);
        check.due("no minute", x.pass(0), 0);
        check.due("lies at", x.barge(0, 3), 0);
        check.due("nothing spent", x.couple(0, 0), 9);
        check.due("still there", x.couple(0, 2), 0);
        QuarrelBridges y = quarrel(1, 9, 1, 0, 9);
        check.due("a stamp of 1", y.pass(0), 1);
        check.due("in time", y.barge(0, 2), 1);
        QuarrelBridges snow = quarrel(1, 9, 1, 1, 9);
        check.due("1 halved", snow.pass(0), 0);
        check.due("lies", snow.barge(0, 2), 3);
    }

    private static void stampOfZeroLater() {
        check.sentence("STUCK, if a STAMP is 0, ahead of that");
        // 12 on 0: 1, 1, 1, then of 9: 0.
        QuarrelBridges just = quarrel(3, 12, 0, 0, 9);
        check.due("3 is come to", just.pass(0), 3);
        check.due("in time", just.barge(0, 2), 1);
        check.due("left", just.couple(0, 0), 9);
        QuarrelBridges stuck = quarrel(4, 12, 0, 0, 9);
        check.due("4 is not", stuck.pass(0), 3);
        check.due("lies", stuck.barge(0, 3), 0);
        check.due("left", stuck.couple(0, 0), 9);
        check.due("not reconciled", stuck.couple(0, 4), 0);
        check.due("still there", stuck.couple(0, 2), 0);
    }

    private static void opensByWOrMore() {
        check.sentence("opens behind the MINUTES by which STAMPS together are W or more");
        // 99 on 9: 18, then of 81: 17, then of 64: 15, then of 49: 13.
        int[] needs = {1, 17, 18, 19, 34, 35, 36, 50, 51, 60};
        int[] minutes = {1, 1, 1, 2, 2, 2, 3, 3, 4, 4};
        for (int i = 0; i < needs.length; i++) {
            QuarrelBridges x = quarrel(needs[i], 99, 9, 0, 9);
            check.due("pass at W " + needs[i], x.pass(0), minutes[i]);
            check.due("in time at W " + needs[i], x.barge(0, 2), 1);
        }
    }

    private static void reconciledAheadOfThat() {
        check.sentence("STUCK, if it is RECONCILED ahead of that");
        QuarrelBridges x = quarrel(7, 6, 3, 0, 9);
        check.due("pass", x.pass(0), 2);
        check.due("lies at", x.barge(0, 3), 0);
        check.due("never passed", x.barge(0, 4), NONE);
        check.due("reconciled", x.couple(0, 4), 1);
        check.due("ashore", x.couple(0, 2), NONE);
    }

    private static void reconciledJustThen() {
        check.sentence("RECONCILED just then: it opens");
        QuarrelBridges x = quarrel(6, 6, 3, 0, 9);
        check.due("pass", x.pass(0), 2);
        check.due("in time", x.barge(0, 2), 1);
        check.due("when", x.barge(0, 4), 2);
        check.due("lies nowhere", x.barge(0, 3), NONE);
        check.due("reconciled", x.couple(0, 4), 1);
        // At bridge 0 it is reconciled just then, and the barge goes on to bridge 1.
        QuarrelBridges y = Check.of("b6,5;c6 3;c50 0;v1 9;");
        y.send(0, 0, 0);
        y.send(1, 1, 0);
        check.due("pass two", y.pass(0), 3);
        check.due("in time", y.barge(0, 2), 1);
        check.due("reconciled", y.told(7), 1);
    }

    private static void bridgesUpToMOnly() {
        check.sentence("A BARGE passes BRIDGES 0 to M, one by one");
        for (int m = 0; m < 3; m++) {
            QuarrelBridges x = Check.of("b5,5,5;c50 0;c50 0;c50 0;v" + m + " 9;");
            for (int c = 0; c < 3; c++) {
                x.send(c, c, 0);
            }
            check.due("pass to " + m, x.pass(0), m + 1);
            for (int c = 0; c < 3; c++) {
                check.due("grievance at " + c, x.couple(c, 0), c <= m ? 45 : 50);
            }
        }
        QuarrelBridges y = Check.of("b5,5;c50 0;v0 9;");
        y.send(0, 0, 0);
        check.due("nobody behind M", y.pass(0), 1);
        check.due("in time", y.barge(0, 2), 1);
    }

    private static void bridgesUpToTheLast() {
        check.sentence("A BARGE passes BRIDGES 0 to M, M 5");
        QuarrelBridges x = Check.of("b5,5,5,5,5,5;" + "c50 0;".repeat(6) + "v5 6;");
        for (int c = 0; c < 6; c++) {
            x.send(c, c, 0);
        }
        check.due("pass", x.pass(0), 6);
        check.due("in time", x.barge(0, 2), 1);
        check.due("grievance at each", x.told(11), 6 * 45);
        QuarrelBridges y = Check.of("b5,5,5,5,5,5;" + "c50 0;".repeat(5) + "v5 6;");
        for (int c = 0; c < 5; c++) {
            y.send(c, c, 0);
        }
        check.due("pass", y.pass(0), 5);
        check.due("lies at the last", y.barge(0, 3), 5);
    }

    private static void nobodyThere() {
        check.sentence("nobody there: the BARGE lies at that BRIDGE, for good");
        for (int b = 0; b < 3; b++) {
            QuarrelBridges x = Check.of("b5,5,5;c50 0;c50 0;c50 0;v2 9;v2 9;");
            for (int c = 0; c < 3; c++) {
                if (c != b) {
                    x.send(c, c, 0);
                }
            }
            check.due("pass till " + b, x.pass(0), b);
            check.due("lies at", x.barge(0, 3), b);
            check.due("lies", x.barge(0, 2), 3);
            check.due("set", x.told(10), 1);
            x.send(b, b, 0);
            check.due("for good", x.pass(0), NOT);
            // Of 45 it takes 4 and 4, so the bridges that opened for the first barge take a minute more.
            check.due("another passes", x.pass(1), b + 3 + b);
            check.due("it still lies", x.barge(0, 2), 3);
        }
    }

    private static void whatWasSpentIsGone() {
        check.sentence("MINUTES, GRIEVANCE that were spent are gone");
        QuarrelBridges x = Check.of("b5,60;c50 0;c20 4;v1 9;");
        x.send(0, 0, 0);
        x.send(1, 1, 0);
        // 5 at bridge 0; at bridge 1 of 20: 6, of 14: 5, of 9: 4, of 5: 4, of 1: 1.
        check.due("pass", x.pass(0), 6);
        check.due("lies at", x.barge(0, 3), 1);
        check.due("minutes", x.told(6), 6);
        check.due("of couple 0", x.couple(0, 0), 45);
        check.due("of couple 1", x.couple(1, 0), 0);
        check.due("reconciled", x.told(7), 2);
    }

    private static void eachOpensAnew() {
        check.sentence("at each the COUPLE there quarrels on its THEME till it opens");
        // 50 on 0: 5, of 45: 4 and of 41: 4 (more than 5 is not kept for the next), of 37: 3, of 34: 3.
        QuarrelBridges x = Check.of("b5;c50 0;v0 9;v0 9;v0 9;");
        x.send(0, 0, 0);
        check.due("first", x.pass(0), 1);
        check.due("second", x.pass(1), 3);
        check.due("third", x.pass(2), 5);
        check.due("left", x.couple(0, 0), 31);
    }

    private static void byItsVeryMinute() {
        check.sentence("PASSED by its D: IN TIME, else LATE");
        for (int tide = 1; tide <= 4; tide++) {
            // 50 on 4: 9, 8, 7: W of 24 behind 3 minutes.
            QuarrelBridges x = quarrel(24, 50, 4, 0, tide);
            check.due("pass", x.pass(0), 3);
            check.due("D " + tide, x.barge(0, 2), tide >= 3 ? 1 : 2);
            check.due("in time, D " + tide, x.told(8), tide >= 3 ? 1 : 0);
            check.due("late, D " + tide, x.told(9), tide >= 3 ? 0 : 1);
            check.due("when", x.barge(0, 4), 3);
        }
        for (int tide = 299; tide <= 300; tide++) {
            QuarrelBridges x = quarrel(5, 99, 9, 0, tide);
            for (int i = 0; i < 3; i++) {
                x.drift(99);
            }
            x.drift(2);
            check.due("pass by minute 300", x.pass(0), 300);
            check.due("D " + tide, x.barge(0, 2), tide == 300 ? 1 : 2);
        }
    }

    private static void sendAnswersWhereItWas() {
        check.sentence("send: from another BRIDGE, too; the same one with another THEME: where it was (NONE: ashore)");
        QuarrelBridges x = Check.of("b5,5,5;t2;c9 1,1;");
        check.due("from ashore", x.send(0, 0, 0), NONE);
        check.due("the same, another theme", x.send(0, 0, 1), 0);
        check.due("theme", x.couple(0, 3), 1);
        check.due("the same, the same theme", x.send(0, 0, 1), 0);
        check.due("to the last", x.send(0, 2, 1), 0);
        check.due("from the last", x.send(0, 1, 0), 2);
        check.due("each can be undone", x.told(13), 5);
        check.due("theme", x.couple(0, 3), 0);
    }

    private static void homeAnswersWhereItWas() {
        check.sentence("home: A COUPLE goes ashore: where it was");
        QuarrelBridges x = Check.of("b5,5,5;c9 1;c9 1;");
        x.send(0, 0, 0);
        x.send(1, 2, 0);
        check.due("from the last", x.home(1), 2);
        check.due("from 0", x.home(0), 0);
        check.due("ashore", x.couple(0, 2), NONE);
        check.due("again", x.home(0), NOT);
    }

    private static void passAnswersMinutes() {
        check.sentence("pass: A BARGE passes (or lies then): MINUTES");
        QuarrelBridges x = Check.of("b5,5;c50 0;v0 99;v1 99;");
        x.send(0, 0, 0);
        check.due("passes", x.pass(0), 1);
        check.due("told", x.told(6), 1);
        check.due("lies", x.pass(1), 3);
        check.due("told", x.told(6), 3);
    }

    private static void grieveByOneToNinetyNine() {
        check.sentence("grieve: v (1 .. 99) more (99 at most)");
        QuarrelBridges x = Check.of("b5;c0 1;c97 1;c98 1;c99 1;c0 1;c50 1;");
        check.due("1 more", x.grieve(0, 1), 1);
        check.due("99 more", x.grieve(4, 99), 99);
        check.due("2 more of 97", x.grieve(1, 2), 99);
        check.due("2 more of 98", x.grieve(2, 2), 99);
        check.due("1 more of 99", x.grieve(3, 1), 99);
        check.due("49 more of 50", x.grieve(5, 49), 99);
        check.due("99 more of 99", x.grieve(5, 99), 99);
        check.due("told", x.couple(5, 0), 99);
        check.due("G stays", x.couple(5, 1), 50);
        check.due("each can be undone", x.told(13), 7);
    }

    private static void driftByOneToNinetyNine() {
        check.sentence("drift: n tides (1 .. 99) BY DRAWS: MINUTES");
        QuarrelBridges x = Check.of("b5;c0 1;");
        check.due("1", x.drift(1), 1);
        check.due("99", x.drift(99), 100);
        check.due("told", x.told(6), 100);
        check.due("each can be undone", x.told(13), 2);
    }

    private static long next(long seed) {
        return (seed * 1103515245L + 12345L) % 2147483648L;
    }

    private static void driftOfGrievance() {
        check.sentence("a DRAW of COUPLES: its GRIEVANCE is a DRAW of 10 more (99 at most)");
        for (int couples = 1; couples <= 6; couples++) {
            QuarrelBridges x = Check.of("b5;" + "c88 1;".repeat(couples));
            int[] grievance = new int[couples];
            Arrays.fill(grievance, 88);
            long seed = 0;
            for (int i = 1; i <= 30; i++) {
                seed = next(seed);
                int c = (int) (seed / 65536 % couples);
                seed = next(seed);
                grievance[c] = Math.min(99, grievance[c] + (int) (seed / 65536 % 10));
                check.due("drift", x.drift(1), i);
                check.due("grievance of " + c, x.couple(c, 0), grievance[c]);
            }
            int all = 0;
            for (int c = 0; c < couples; c++) {
                all += grievance[c];
            }
            check.due("grievance of all", x.told(11), all);
            check.holds("one alone comes to 99 by then", couples > 1 || grievance[0] == 99);
        }
    }

    private static void driftOfReconciled() {
        check.sentence("of one that is RECONCILED the DRAW is made, no more");
        QuarrelBridges x = Check.of("b3;c3 3;c20 1;v0 9;");
        x.send(0, 0, 0);
        x.pass(0);
        long seed = 0;
        int grievance = 20;
        boolean met = false;
        for (int i = 0; i < 20; i++) {
            seed = next(seed);
            int c = (int) (seed / 65536 % 2);
            seed = next(seed);
            int more = (int) (seed / 65536 % 10);
            grievance = c == 0 ? grievance : Math.min(99, grievance + more);
            met |= c == 0 && more > 0;
            check.due("drift", x.drift(1), 2 + i);
            check.due("of the other", x.couple(1, 0), grievance);
            check.due("of the reconciled", x.couple(0, 0), 0);
        }
        check.holds("the reconciled one was drawn", met);
        check.due("seed", x.seed(0), (int) seed);
    }

    private static void drawsOfTheSeed() {
        check.sentence("each DRAW it becomes it times 1103515245 and 12345, left over by 2 to the 31");
        long[] seeds = {0, 1, 65535, 65536, 1073741824, 2147483646, 2147483647};
        for (long from : seeds) {
            QuarrelBridges x = Check.of("b5;c10 1;c10 1;c10 1;");
            x.seed((int) from);
            x.drift(1);
            long first = next(from);
            long second = next(first);
            int c = (int) (first / 65536 % 3);
            check.due("grievance from " + from, x.couple(c, 0), 10 + (int) (second / 65536 % 10));
            check.due("seed from " + from, x.seed(0), (int) second);
        }
    }

    private static void undoneTwentyAtMost() {
        check.sentence("20 at most are kept, the oldest are lost");
        for (int done = 19; done <= 22; done++) {
            QuarrelBridges x = Check.of("b5;c10 1;");
            for (int i = 1; i <= done; i++) {
                x.grieve(0, 1);
                check.due("can be undone", x.told(13), Math.min(20, i));
            }
            int kept = Math.min(20, done);
            for (int i = 1; i <= kept; i++) {
                check.due("undo", x.undo(), kept - i);
                check.due("grievance", x.couple(0, 0), 10 + done - i);
            }
            check.due("none", x.undo(), NOT);
            check.due("grievance", x.couple(0, 0), 10 + done - kept);
        }
    }

    private static void undoneBehindForgetting() {
        check.sentence("20 at most are kept, behind what is gone, too");
        QuarrelBridges x = Check.of("b5;c10 1;");
        for (int i = 0; i < 27; i++) {
            x.grieve(0, 1);
        }
        x.keep(0);
        for (int i = 0; i < 22; i++) {
            x.grieve(0, 1);
        }
        x.undo();
        x.grieve(0, 2);
        check.due("can be undone", x.told(13), 20);
        check.due("undo", x.undo(), 19);
        for (int i = 1; i <= 19; i++) {
            check.due("grievance", x.couple(0, 0), 59 - i);
            check.due("undo", x.undo(), 19 - i);
        }
        check.due("none", x.undo(), NOT);
        check.due("as behind the second", x.couple(0, 0), 39);
    }

    private static void undoneEachKind() {
        check.sentence("the latest of send(), home(), pass(), grieve(), drift() that was not refused");
        QuarrelBridges x = Check.of("b3,3;t2;c3 3,3;c20 1,1;v0 9;v1 9;");
        x.send(0, 0, 1);
        x.send(0, 1, 0);
        x.home(0);
        x.send(0, 0, 1);
        x.pass(0);
        x.pass(1);
        x.grieve(1, 5);
        x.drift(4);
        x.pass(0);
        x.grieve(0, 1);
        x.drift(0);
        x.home(0);
        x.send(0, 0, 0);
        check.due("eight", x.told(13), 8);
        check.due("drift", x.undo(), 7);
        check.due("minutes", x.told(6), 1);
        check.due("grievance", x.couple(1, 0), 25);
        check.due("grieve", x.undo(), 6);
        check.due("grievance", x.couple(1, 0), 20);
        check.due("barge 1 lies", x.barge(1, 3), 0);
        check.due("pass", x.undo(), 5);
        check.due("barge 1 waits", x.barge(1, 2), 0);
        check.due("barge 1 lies nowhere", x.barge(1, 3), NONE);
        check.due("reconciled", x.told(7), 1);
        check.due("pass", x.undo(), 4);
        check.due("barge 0 waits", x.barge(0, 2), 0);
        check.due("barge 0 not passed", x.barge(0, 4), NONE);
        check.due("minutes", x.told(6), 0);
        check.due("not reconciled", x.told(7), 0);
        check.due("there", x.couple(0, 2), 0);
        check.due("on its theme", x.couple(0, 3), 1);
        check.due("send", x.undo(), 3);
        check.due("ashore", x.couple(0, 2), NONE);
        check.due("its theme of before", x.couple(0, 3), 0);
        check.due("home", x.undo(), 2);
        check.due("at bridge 1", x.couple(0, 2), 1);
        check.due("send", x.undo(), 1);
        check.due("at bridge 0", x.couple(0, 2), 0);
        check.due("on theme 1", x.couple(0, 3), 1);
        check.due("send", x.undo(), 0);
        check.due("ashore", x.couple(0, 2), NONE);
        check.due("on theme 0", x.couple(0, 3), 0);
        check.due("none", x.undo(), NOT);
    }

    private static void undoneLeavesTheSeed() {
        check.sentence("all of section 2 is as ahead of it; THE SEED stays");
        QuarrelBridges x = Check.of("b5;c10 1;");
        x.seed(4);
        x.drift(1);
        check.due("undo", x.undo(), 0);
        check.due("grievance", x.couple(0, 0), 10);
        check.due("minutes", x.told(6), 0);
        check.due("seed", x.seed(0), (int) next(next(4)));
    }

    private static void undoneLeavesTheBookAndImages() {
        check.sentence("all of section 2 is as ahead of it (no more than that)");
        QuarrelBridges x = Check.of("b5;c10 1;");
        x.keep(1);
        x.grieve(0, 1);
        x.write(0, 10);
        x.feed('b');
        check.due("otherwise", x.judge(), 0);
        x.undo();
        check.due("entries", x.told(12), 1);
        check.due("letters", x.told(5), 1);
        check.due("right now", x.judge(), NONE);
        check.due("image", x.goBack(1), 1);
    }
}
