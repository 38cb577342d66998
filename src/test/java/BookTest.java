/** Promises 27 to 32: books, the seed, images. */
public final class BookTest {
    private static final int UNKNOWN = QuarrelBridges.UNKNOWN;
    private static final int OUTSIDE = QuarrelBridges.OUTSIDE;
    private static final int NOT = QuarrelBridges.NOT;
    private static final int FULL = QuarrelBridges.FULL;

    private static final Check check = new Check();

    public static void main(String[] args) {
        books();
        seeds();
        images();
        imagesAndUndo();
        check.finish();
    }

    private static void books() {
        QuarrelBridges x = Check.of("b5;c50 1;c7 1;");
        check.due("no entries", x.judge(), -1);
        check.due("nothing torn", x.tear(), 0);
        check.due("write", x.write(0, 50), 1);
        check.due("write", x.write(1, 7), 2);
        check.due("write", x.write(0, 0), 3);
        check.due("write", x.write(0, 99), 4);
        check.due("the first that is otherwise", x.judge(), 2);
        x.grieve(1, 1);
        check.due("an earlier one", x.judge(), 1);
        x.undo();
        check.due("the book stays", x.told(12), 4);
        check.due("as before", x.judge(), 2);
        check.due("couple", x.write(2, 100), UNKNOWN);
        check.due("couple -1", x.write(-1, 0), UNKNOWN);
        check.due("g 100", x.write(0, 100), OUTSIDE);
        check.due("g -1", x.write(0, -1), OUTSIDE);
        for (int i = 5; i <= 15; i++) {
            check.due("write", x.write(0, 50), i);
        }
        check.due("16th", x.write(0, 50), FULL);
        check.due("16th outside", x.write(0, 100), OUTSIDE);
        check.due("told", x.told(12), 15);
        check.due("torn", x.tear(), 15);
        check.due("told", x.told(12), 0);
        check.due("judge", x.judge(), -1);
        check.due("write again", x.write(0, 50), 1);
        check.due("right", x.judge(), -1);
    }

    private static void seeds() {
        QuarrelBridges x = new QuarrelBridges();
        check.due("at first", x.seed(5), 0);
        check.due("it was", x.seed(Integer.MAX_VALUE), 5);
        check.due("outside", x.seed(-1), OUTSIDE);
        check.due("outside", x.seed(Integer.MIN_VALUE), OUTSIDE);
        check.due("as it was", x.seed(0), Integer.MAX_VALUE);
        QuarrelBridges y = Check.of("b1;c5 1;");
        y.drift(1);
        check.due("two draws from 0", y.seed(0), (int) ((12345L * 1103515245L + 12345L) % 2147483648L));
    }

    private static void images() {
        QuarrelBridges x = Check.of("b5,2;t2;c50 1,2;c2 1,1;v0 9;v1 9;");
        check.due("not kept", x.goBack(0), NOT);
        check.due("no such image", x.goBack(2), UNKNOWN);
        check.due("no such image", x.goBack(-1), UNKNOWN);
        check.due("no such image", x.keep(2), UNKNOWN);
        check.due("no such image", x.keep(-1), UNKNOWN);
        x.send(0, 0, 1);
        x.send(1, 1, 1);
        x.seed(3);
        check.due("keep", x.keep(1), 1);
        x.pass(0);
        x.pass(1);
        x.drift(5);
        x.write(0, 1);
        check.due("keep", x.keep(0), 1);
        int grievance = x.couple(0, 0);
        int seed = x.seed(9);
        check.due("goBack 1", x.goBack(1), 1);
        check.due("minutes", x.told(6), 0);
        check.due("grievance", x.told(11), 52);
        check.due("in time", x.told(8), 0);
        check.due("nobody reconciled", x.told(7), 0);
        check.due("where", x.couple(1, 2), 1);
        check.due("theme", x.couple(1, 3), 1);
        check.due("the book stays", x.told(12), 1);
        check.due("seed", x.seed(3), 3);
        check.due("goBack 0", x.goBack(0), 1);
        check.due("minutes", x.told(6), 9);
        check.due("grievance", x.couple(0, 0), grievance);
        check.due("in time", x.told(8), 3);
        check.due("reconciled", x.told(7), 2);
        check.due("seed", x.seed(0), seed);
        check.due("goBack 1 again", x.goBack(1), 1);
    }

    private static void imagesAndUndo() {
        QuarrelBridges x = Check.of("b5;c50 1;");
        x.grieve(0, 1);
        x.keep(0);
        check.due("nothing can be undone", x.undo(), NOT);
        x.grieve(0, 1);
        check.due("refused", x.goBack(1), NOT);
        check.due("refused", x.keep(3), UNKNOWN);
        check.due("what is refused changes nothing", x.told(13), 1);
        x.goBack(0);
        check.due("nothing can be undone", x.told(13), 0);
        check.due("nothing can be undone", x.undo(), NOT);
        check.due("as kept", x.couple(0, 0), 51);
    }
}
