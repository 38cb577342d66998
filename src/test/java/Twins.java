import java.util.ArrayList;
import java.util.List;
import java.util.function.Supplier;
import java.util.function.ToIntFunction;

/** Two objects made alike, of which one is asked a call that must change nothing: all that can be seen of both is held together. */
final class Twins {
    private Twins() {
    }

    /**
     * A town in which each refusal can be had: couple 0 is at bridge 0, couple 1 RECONCILED, couple 2 ashore; barge 0
     * IN TIME, barge 1 lies, barge 2 waits; IMAGE 0 is kept, IMAGE 1 not; some can be undone; a book of two entries.
     */
    static QuarrelBridges scene() {
        QuarrelBridges x = Check.of("b6,20;t2;c50 2,3;c6 9,9;c30 0,4;v0 9;v1 9;v0 99;");
        x.seed(77);
        x.send(1, 0, 0);
        x.pass(0);
        x.keep(0);
        x.send(0, 0, 1);
        x.pass(1);
        x.grieve(2, 5);
        x.drift(2);
        x.write(0, 50);
        x.write(2, 35);
        return x;
    }

    static QuarrelBridges sceneWithText() {
        QuarrelBridges x = scene();
        Check.feedAll(x, "b7,8;c9");
        return x;
    }

    /** A call that is answered by what is due, and changes nothing that can be seen, then or later. */
    static void unchanged(Check check, String call, Supplier<QuarrelBridges> made, ToIntFunction<QuarrelBridges> asked, int due) {
        QuarrelBridges one = made.get();
        QuarrelBridges other = made.get();
        check.due(call, asked.applyAsInt(one), due);
        check.due("the fault behind " + call, one.fault(), other.fault());
        same(check, call, portrait(one), portrait(other));
    }

    /** The same of a call whose answer other tests ask for. */
    static void unchanged(Check check, String call, ToIntFunction<QuarrelBridges> asked) {
        unchanged(check, call, Twins::sceneWithText, asked, asked.applyAsInt(sceneWithText()));
    }

    /** The same of a text with a fault: the text is empty then, and the letter of its fault is told. */
    static void unchangedButText(Check check, String call, ToIntFunction<QuarrelBridges> asked, int due, int faultAt) {
        QuarrelBridges one = scene();
        QuarrelBridges other = scene();
        check.due(call, asked.applyAsInt(one), due);
        check.due("the fault of " + call, one.fault(), faultAt);
        same(check, call, portrait(one), portrait(other));
    }

    private static void same(Check check, String call, List<Integer> got, List<Integer> want) {
        check.due("what can be seen behind " + call, got.size(), want.size());
        for (int i = 0; i < Math.min(got.size(), want.size()); i++) {
            check.due("view " + i + " behind " + call, got.get(i), want.get(i));
        }
    }

    /** All that can be seen of an object; it is spent by it, since what can be undone is undone, images are gone back to. */
    private static List<Integer> portrait(QuarrelBridges x) {
        List<Integer> seen = new ArrayList<>();
        view(x, seen);
        for (int b = 0; b < x.told(0); b++) {
            seen.add(x.bridge(b, 0));
        }
        for (int i = x.told(13); i > 0; i--) {
            seen.add(x.undo());
            moving(x, seen);
        }
        for (int i = 0; i < 2; i++) {
            seen.add(x.goBack(i));
            view(x, seen);
        }
        seen.add(x.tear());
        seen.add(x.town());
        seen.add(x.fault());
        seen.add(x.told(0));
        return seen;
    }

    private static void view(QuarrelBridges x, List<Integer> seen) {
        for (int what = 0; what <= 13; what++) {
            seen.add(x.told(what));
        }
        moving(x, seen);
        int seed = x.seed(0);
        x.seed(seed);
        seen.add(seed);
        seen.add(x.judge());
    }

    private static void moving(QuarrelBridges x, List<Integer> seen) {
        seen.add(x.told(6));
        seen.add(x.told(7));
        for (int c = 0; c < x.told(2); c++) {
            seen.add(x.couple(c, 0));
            seen.add(x.couple(c, 2));
            seen.add(x.couple(c, 3));
        }
        for (int v = 0; v < x.told(3); v++) {
            seen.add(x.barge(v, 2));
            seen.add(x.barge(v, 3));
            seen.add(x.barge(v, 4));
        }
    }
}
