/** THE BOOK, THE SEED and IMAGES of "Terms", section 3, and promises 27 to 32: each boundary, from both of its sides. */
public final class BookEdgeTest {
    private static final int NONE = QuarrelBridges.NONE;
    private static final int UNKNOWN = QuarrelBridges.UNKNOWN;
    private static final int OUTSIDE = QuarrelBridges.OUTSIDE;
    private static final int NOT = QuarrelBridges.NOT;
    private static final int FULL = QuarrelBridges.FULL;

    private static final Check check = new Check();

    public static void main(String[] args) {
        fifteenEntries();
        entriesOfZeroToNinetyNine();
        tearing();
        tearingAnEmptyOne();
        wrongTheFirst();
        wrongTheLast();
        wrongNone();
        wrongAsNow();
        seedBounds();
        seedAtFirst();
        imagesZeroAndOne();
        imagesApart();
        imageBecomesAnew();
        imageOfAllOfSectionTwo();
        imageOfTheSeed();
        imageWithoutTheRest();
        imagesOfATown();
        nothingCanBeUndoneThen();
        goneBackAgain();
        check.finish();
    }

    private static void fifteenEntries() {
        check.sentence("THE BOOK (15 at most): FULL (15)");
        QuarrelBridges x = Check.of("b5;c9 1;");
        for (int i = 1; i <= 15; i++) {
            check.due("write", x.write(0, 9), i);
            check.due("entries", x.told(12), i);
        }
        check.due("a 16th", x.write(0, 8), FULL);
        check.due("entries", x.told(12), 15);
        check.due("all are right", x.judge(), NONE);
        check.due("a 16th of no couple", x.write(1, 8), UNKNOWN);
        check.due("a 16th of 100", x.write(0, 100), OUTSIDE);
    }

    private static void entriesOfZeroToNinetyNine() {
        check.sentence("An entry behind THE BOOK (0 .. 99)");
        QuarrelBridges x = Check.of("b5;c0 1;c99 1;");
        check.due("-1", x.write(0, -1), OUTSIDE);
        check.due("0", x.write(0, 0), 1);
        check.due("99", x.write(1, 99), 2);
        check.due("100", x.write(1, 100), OUTSIDE);
        check.due("couple -1", x.write(-1, 0), UNKNOWN);
        check.due("couple 2", x.write(2, 0), UNKNOWN);
        check.due("couple 2, 100", x.write(2, 100), UNKNOWN);
        check.due("both are right", x.judge(), NONE);
        check.due("entries", x.told(12), 2);
    }

    private static void tearing() {
        check.sentence("THE BOOK is empty: how many entries it had");
        for (int n = 1; n <= 15; n += 14) {
            QuarrelBridges x = Check.of("b5;c9 1;");
            for (int i = 0; i < n; i++) {
                x.write(0, 1);
            }
            check.due("tear", x.tear(), n);
            check.due("entries", x.told(12), 0);
            check.due("judge", x.judge(), NONE);
            check.due("again", x.tear(), 0);
            check.due("write", x.write(0, 9), 1);
            check.due("judge", x.judge(), NONE);
        }
    }

    private static void tearingAnEmptyOne() {
        check.sentence("THE BOOK is empty, at first");
        check.due("a new object", new QuarrelBridges().tear(), 0);
        check.due("a town", Check.of("b5;c9 1;").tear(), 0);
    }

    private static void wrongTheFirst() {
        check.sentence("WRONG: the first that is otherwise now");
        QuarrelBridges x = Check.of("b5;c9 1;c8 1;");
        x.write(0, 8);
        x.write(1, 8);
        x.write(1, 9);
        check.due("entry 0", x.judge(), 0);
        x.tear();
        x.write(1, 8);
        x.write(1, 9);
        x.write(0, 8);
        check.due("entry 1", x.judge(), 1);
    }

    private static void wrongTheLast() {
        check.sentence("WRONG, the 15th");
        QuarrelBridges x = Check.of("b5;" + "c9 1;".repeat(6));
        for (int i = 0; i < 14; i++) {
            x.write(i % 6, 9);
        }
        x.write(5, 10);
        check.due("entry 14", x.judge(), 14);
        x.grieve(5, 1);
        check.due("entry 5 then", x.judge(), 5);
    }

    private static void wrongNone() {
        check.sentence("WRONG; NONE");
        check.due("a new object", new QuarrelBridges().judge(), NONE);
        QuarrelBridges x = Check.of("b5;c9 1;");
        check.due("no entries", x.judge(), NONE);
        x.write(0, 9);
        check.due("one that is right", x.judge(), NONE);
    }

    private static void wrongAsNow() {
        check.sentence("otherwise now");
        QuarrelBridges x = Check.of("b3;c3 3;v0 9;");
        x.write(0, 0);
        check.due("3 now", x.judge(), 0);
        x.send(0, 0, 0);
        x.pass(0);
        check.due("0 of one that is RECONCILED", x.judge(), NONE);
        x.undo();
        check.due("3 again", x.judge(), 0);
    }

    private static void seedBounds() {
        check.sentence("THE SEED becomes v (0 .. 2147483647): what it was. OUTSIDE");
        QuarrelBridges x = new QuarrelBridges();
        check.due("2147483647", x.seed(2147483647), 0);
        check.due("-1", x.seed(-1), OUTSIDE);
        check.due("least", x.seed(Integer.MIN_VALUE), OUTSIDE);
        check.due("0", x.seed(0), 2147483647);
        check.due("1", x.seed(1), 0);
        check.due("as it was", x.seed(1), 1);
    }

    private static void seedAtFirst() {
        check.sentence("THE SEED (0 at first)");
        QuarrelBridges x = Check.of("b1;c50 1;");
        QuarrelBridges y = Check.of("b1;c50 1;");
        y.seed(0);
        x.drift(9);
        y.drift(9);
        check.due("as from 0", x.couple(0, 0), y.couple(0, 0));
        check.due("seed as from 0", x.seed(0), y.seed(0));
    }

    private static void imagesZeroAndOne() {
        check.sentence("IMAGES 0, 1; UNKNOWN; NOT: it was not kept");
        QuarrelBridges x = Check.of("b1;c50 1;");
        check.due("keep -1", x.keep(-1), UNKNOWN);
        check.due("keep 2", x.keep(2), UNKNOWN);
        check.due("goBack -1", x.goBack(-1), UNKNOWN);
        check.due("goBack 2", x.goBack(2), UNKNOWN);
        check.due("goBack 0", x.goBack(0), NOT);
        check.due("goBack 1", x.goBack(1), NOT);
        check.due("keep 0", x.keep(0), 1);
        check.due("goBack 1 still", x.goBack(1), NOT);
        check.due("goBack 0 then", x.goBack(0), 1);
        check.due("keep 1", x.keep(1), 1);
        check.due("goBack 1 then", x.goBack(1), 1);
        QuarrelBridges y = Check.of("b1;c50 1;");
        check.due("keep 1 first", y.keep(1), 1);
        check.due("goBack 0 then", y.goBack(0), NOT);
        check.due("of a new object", new QuarrelBridges().keep(0), 1);
    }

    private static void imagesApart() {
        check.sentence("IMAGE i becomes what is so; What is so becomes IMAGE i");
        QuarrelBridges x = Check.of("b1;c50 1;");
        x.keep(0);
        x.grieve(0, 1);
        x.keep(1);
        x.grieve(0, 1);
        x.goBack(0);
        check.due("as of 0", x.couple(0, 0), 50);
        x.goBack(1);
        check.due("as of 1", x.couple(0, 0), 51);
        x.goBack(0);
        check.due("as of 0 again", x.couple(0, 0), 50);
    }

    private static void imageBecomesAnew() {
        check.sentence("IMAGE i becomes what is so, again");
        QuarrelBridges x = Check.of("b1;c50 1;");
        x.keep(0);
        x.keep(1);
        x.grieve(0, 9);
        x.keep(0);
        x.grieve(0, 9);
        x.goBack(0);
        check.due("the later one", x.couple(0, 0), 59);
        x.goBack(1);
        check.due("the other stays", x.couple(0, 0), 50);
    }

    private static void imageOfAllOfSectionTwo() {
        check.sentence("IMAGES keep all of section 2");
        // Six couples and seven barges, so that the last of each is kept, too.
        QuarrelBridges x = Check.of("b2,2;t2;" + "c20 0,0;".repeat(5) + "c2 2,2;" + "v0 1;".repeat(6) + "v1 9;");
        x.send(5, 0, 1);
        x.pass(0);
        x.send(4, 0, 1);
        x.pass(5);
        x.pass(6);
        // Of 2 it is 2; of 20 it is 2, of 18 1 and 1: by minutes 1, 2, 4.
        x.keep(1);
        x.home(4);
        x.send(3, 1, 1);
        x.drift(9);
        x.pass(1);
        x.goBack(1);
        check.due("minutes", x.told(6), 4);
        check.due("reconciled", x.told(7), 32);
        check.due("in time", x.told(8), 1);
        check.due("late", x.told(9), 32);
        check.due("lie", x.told(10), 64);
        check.due("grievance", x.told(11), 80 + 20 - 4);
        check.due("where 4 is", x.couple(4, 2), 0);
        check.due("on what", x.couple(4, 3), 1);
        check.due("where 3 is", x.couple(3, 2), NONE);
        check.due("on what", x.couple(3, 3), 0);
        check.due("where 6 lies", x.barge(6, 3), 1);
        check.due("when 5 passed", x.barge(5, 4), 2);
    }

    private static void imageOfTheSeed() {
        check.sentence("IMAGES keep THE SEED");
        QuarrelBridges x = Check.of("b1;c50 1;");
        x.seed(2147483647);
        x.keep(0);
        x.seed(0);
        x.keep(1);
        x.seed(5);
        x.goBack(0);
        check.due("of image 0", x.seed(7), 2147483647);
        x.goBack(1);
        check.due("of image 1", x.seed(7), 0);
    }

    private static void imageWithoutTheRest() {
        check.sentence("IMAGES keep all of section 2, THE SEED (no more than that)");
        QuarrelBridges x = Check.of("b1;c50 1;");
        x.keep(0);
        x.write(0, 50);
        Check.feedAll(x, "b1");
        x.goBack(0);
        check.due("entries stay", x.told(12), 1);
        check.due("letters stay", x.told(5), 2);
        x.keep(0);
        check.due("entries stay", x.told(12), 1);
        check.due("letters stay", x.told(5), 2);
    }

    private static void imagesOfATown() {
        check.sentence("town(): IMAGES are gone; with a FAULT all else is as it was");
        QuarrelBridges x = Check.of("b1;c50 1;");
        x.keep(0);
        x.keep(1);
        x.feed('x');
        check.due("a fault", x.town(), -11);
        check.due("image 0", x.goBack(0), 1);
        check.due("image 1", x.goBack(1), 1);
        Check.feedAll(x, "b1;c50 1;");
        check.due("a town", x.town(), 1);
        check.due("image 0", x.goBack(0), NOT);
        check.due("image 1", x.goBack(1), NOT);
    }

    private static void nothingCanBeUndoneThen() {
        check.sentence("nothing can be undone then");
        QuarrelBridges x = Check.of("b1;c50 1;");
        x.grieve(0, 1);
        x.grieve(0, 1);
        check.due("refused", x.goBack(0), NOT);
        check.due("refused", x.keep(2), UNKNOWN);
        check.due("two can be", x.told(13), 2);
        x.keep(0);
        check.due("none can be", x.told(13), 0);
        check.due("undo", x.undo(), NOT);
        x.grieve(0, 1);
        check.due("one can be", x.told(13), 1);
        check.due("undo", x.undo(), 0);
        check.due("as kept", x.couple(0, 0), 52);
        x.grieve(0, 1);
        x.goBack(0);
        check.due("none can be", x.told(13), 0);
        check.due("undo", x.undo(), NOT);
    }

    private static void goneBackAgain() {
        check.sentence("images to go on from");
        QuarrelBridges x = Check.of("b1;c50 1;v0 9;");
        x.send(0, 0, 0);
        x.keep(0);
        for (int i = 0; i < 3; i++) {
            check.due("pass", x.pass(0), 1);
            check.due("grievance", x.couple(0, 0), 44);
            check.due("goBack", x.goBack(0), 1);
            check.due("grievance", x.couple(0, 0), 50);
            check.due("waits", x.barge(0, 2), 0);
        }
    }
}
