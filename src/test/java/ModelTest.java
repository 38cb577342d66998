import java.util.Random;

/** Random runs of calls, each answer held against Model's; the random source is fixed, so a run can be had again. */
public final class ModelTest {
    private static final int RUNS = 2000;
    private static final int CALLS = 512;
    private static final int KINDS = 33;

    private static final Check check = new Check();

    private final Random random;
    private final int run;
    private final QuarrelBridges x = new QuarrelBridges();
    private final Model y = new Model();
    private int left = CALLS;

    private ModelTest(int run) {
        this.run = run;
        this.random = new Random(run);
    }

    public static void main(String[] args) {
        for (int run = 0; run < RUNS; run++) {
            new ModelTest(run).go();
        }
        check.finish();
    }

    private void go() {
        tell(text());
        while (left > 0) {
            if (random.nextInt(120) == 0) {
                tell(random.nextInt(3) == 0 ? spoilt(text()) : text());
            }
            call(random.nextInt(KINDS));
        }
    }

    private void tell(String text) {
        for (int i = 0; i < text.length() && left > 0; i++) {
            same("feed", x.feed(text.charAt(i)), y.feed(text.charAt(i)));
        }
        same("town of " + text, x.town(), y.town());
        same("fault of " + text, x.fault(), y.fault());
    }

    private void same(String call, int got, int want) {
        left--;
        check.due("run " + run + ": " + call, got, want);
    }

    private int upTo(int most) {
        return random.nextInt(most + 1);
    }

    private String blanks() {
        return random.nextInt(12) == 0 ? "  ".substring(random.nextInt(2)) : "";
    }

    private String text() {
        StringBuilder s = new StringBuilder();
        int bridges = 1 + upTo(5);
        int needs = random.nextBoolean() ? 60 : 12;
        for (int b = 0; b < bridges; b++) {
            s.append(blanks()).append(b == 0 ? "b" : ",").append(blanks()).append(1 + random.nextInt(needs));
        }
        s.append(blanks()).append(';');
        int themes = random.nextInt(4) == 0 ? 1 : 1 + upTo(4);
        if (themes > 1 || random.nextBoolean()) {
            s.append('t').append(themes).append(blanks()).append(';');
        }
        if (random.nextInt(3) == 0) {
            s.append("s").append(upTo(1)).append(";");
        }
        int couples = random.nextInt(20) == 0 ? upTo(6) : 2 + upTo(4);
        for (int c = 0; c < couples; c++) {
            s.append('c').append(upTo(random.nextBoolean() ? 99 : 30)).append(' ');
            for (int t = 0; t < themes; t++) {
                s.append(t == 0 ? "" : ",").append(blanks()).append(upTo(9));
            }
            s.append(';');
        }
        int barges = random.nextInt(5) == 0 ? 7 : upTo(5);
        for (int v = 0; v < barges; v++) {
            s.append('v').append(blanks()).append(upTo(bridges - 1)).append(' ');
            s.append(1 + upTo(random.nextInt(4) == 0 ? 299 : 30)).append(blanks()).append(';');
        }
        return s.length() > 240 ? s.substring(0, s.lastIndexOf(";", 239) + 1) : s.toString();
    }

    private String spoilt(String text) {
        StringBuilder s = new StringBuilder(text);
        int times = 1 + upTo(2);
        for (int i = 0; i < times && s.length() > 0; i++) {
            int where = random.nextInt(s.length());
            String signs = "btcvs,;0123456789 x";
            char sign = signs.charAt(random.nextInt(signs.length()));
            switch (random.nextInt(5)) {
                case 0: s.setCharAt(where, sign); break;
                case 1: s.insert(where, sign); break;
                case 2: s.deleteCharAt(where); break;
                case 3: s.setLength(where); break;
                default: s.insert(s.lastIndexOf(";") + 1, "btcvs".charAt(random.nextInt(5)) + "1 1;"); break;
            }
        }
        return s.length() > 240 ? s.substring(0, 240) : s.toString();
    }

    /** A number of a thing, now and then one that there is not. */
    private int of(int count) {
        int odd = random.nextInt(30);
        if (odd == 0) {
            return count;
        }
        if (odd == 1) {
            return -1 - random.nextInt(3);
        }
        if (odd == 2) {
            return random.nextInt();
        }
        return count <= 0 ? 0 : random.nextInt(count);
    }

    private int bridge() {
        return of(y.told(0));
    }

    private int theme() {
        return of(y.told(1));
    }

    private int couple() {
        return of(y.told(2));
    }

    private int barge() {
        return of(y.told(3));
    }

    private void call(int kind) {
        if (kind < 8) {
            callOfTown(kind);
        } else if (kind < 16) {
            callOfDone(kind);
        } else if (kind < 27) {
            callOfTried(kind);
        } else {
            callOfBooks(kind);
        }
    }

    private void callOfTown(int kind) {
        int a;
        int b;
        switch (kind) {
            case 0: a = of(14); same("told " + a, x.told(a), y.told(a)); break;
            case 1: a = bridge(); b = of(2); same("bridge " + a + "," + b, x.bridge(a, b), y.bridge(a, b)); break;
            case 2: a = couple(); b = of(5); same("couple " + a + "," + b, x.couple(a, b), y.couple(a, b)); break;
            case 3: a = couple(); b = theme(); same("force " + a + "," + b, x.force(a, b), y.force(a, b)); break;
            case 4: a = barge(); b = of(5); same("barge " + a + "," + b, x.barge(a, b), y.barge(a, b)); break;
            default: callOfDone(8); break;
        }
    }

    private void callOfDone(int kind) {
        int a;
        int b;
        int c;
        switch (kind) {
            case 8: case 9:
                a = couple(); b = bridge(); c = theme();
                same("send " + a + "," + b + "," + c, x.send(a, b, c), y.send(a, b, c));
                break;
            case 10: a = couple(); same("home " + a, x.home(a), y.home(a)); break;
            case 11: case 12: a = barge(); same("pass " + a, x.pass(a), y.pass(a)); break;
            case 13: a = couple(); b = of(100); same("grieve " + a + "," + b, x.grieve(a, b), y.grieve(a, b)); break;
            case 14: a = of(random.nextInt(8) == 0 ? 100 : 4); same("drift " + a, x.drift(a), y.drift(a)); break;
            default: same("undo", x.undo(), y.undo()); break;
        }
    }

    private void callOfTried(int kind) {
        int a;
        int b;
        int c;
        int d;
        switch (kind) {
            case 16:
                a = couple(); b = bridge(); c = theme(); d = of(2);
                same("could " + a + "," + b + "," + c + "," + d, x.could(a, b, c, d), y.could(a, b, c, d));
                break;
            case 17: a = couple(); b = bridge(); same("best " + a + "," + b, x.bestTheme(a, b), y.bestTheme(a, b)); break;
            case 18: a = bridge(); b = of(a + 2) - 1; same("who " + a + "," + b, x.who(a, b), y.who(a, b)); break;
            case 19: a = upTo(5) - 1; same("order " + a, x.order(a), y.order(a)); break;
            case 20:
                a = bridge(); b = random.nextInt(4) == 0 ? of(62) : 1 + upTo(8); c = of(5) - 2;
                same("toldHer " + a + "," + b + "," + c, x.toldHer(a, b, c), y.toldHer(a, b, c));
                break;
            case 21: a = couple(); b = theme(); same("lasts " + a + "," + b, x.lasts(a, b), y.lasts(a, b)); break;
            case 22: same("wornOut", x.wornOut(), y.wornOut()); break;
            case 23: a = of(y.told(0) + 1) - 1; same("carried " + a, x.carried(a), y.carried(a)); break;
            case 24: a = bridge(); b = of(2); same("hire " + a + "," + b, x.hire(a, b), y.hire(a, b)); break;
            case 25:
                a = couple(); b = of(100); c = of(1001);
                same("midstream " + a + "," + b + "," + c, x.midstream(a, b, c), y.midstream(a, b, c));
                break;
            default: a = of(10); same("fleet " + a, x.fleet(a), y.fleet(a)); break;
        }
    }

    private void callOfBooks(int kind) {
        int a;
        int b;
        switch (kind) {
            case 27:
                a = couple(); b = random.nextBoolean() && a >= 0 && a < y.told(2) ? y.couple(a, 0) : of(100);
                same("write " + a + "," + b, x.write(a, b), y.write(a, b));
                break;
            case 28:
                if (random.nextInt(8) == 0) {
                    same("tear", x.tear(), y.tear());
                }
                break;
            case 29: same("judge", x.judge(), y.judge()); break;
            case 30: a = random.nextInt(); same("seed " + a, x.seed(a), y.seed(a)); break;
            case 31:
                a = of(2);
                if (random.nextInt(4) == 0) {
                    same("keep " + a, x.keep(a), y.keep(a));
                }
                break;
            default:
                a = of(2);
                if (random.nextInt(4) == 0) {
                    same("goBack " + a, x.goBack(a), y.goBack(a));
                }
                break;
        }
    }
}
