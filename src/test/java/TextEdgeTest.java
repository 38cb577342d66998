/** "Terms", section 1, and promises 1 to 9: each boundary that a sentence names, from both of its sides. */
public final class TextEdgeTest {
    private static final int NONE = QuarrelBridges.NONE;
    private static final int UNKNOWN = QuarrelBridges.UNKNOWN;
    private static final int OUTSIDE = QuarrelBridges.OUTSIDE;
    private static final int NOT = QuarrelBridges.NOT;
    private static final int FULL = QuarrelBridges.FULL;

    private static final String LARGE =
        "b60,60,60,60,60,60;t5;s1;c99 9,9,9,9,9;c4 9,9,9,9,9;" + "c99 9,9,9,9,9;".repeat(4) + "v0 300;".repeat(7);

    private static final Check check = new Check();

    public static void main(String[] args) {
        lettersOfTheText();
        aLetter();
        bridges();
        stampsOfABridge();
        bridgesFirst();
        bridgesOnce();
        themes();
        themesUntold();
        themesOnce();
        themesAheadOfCouples();
        couples();
        grievances();
        forces();
        forcesByEachTheme();
        barges();
        bargesUpTo();
        tides();
        snow();
        snowUntold();
        snowOnce();
        figures();
        blanks();
        blanksAreOnly32();
        numbersSideBySide();
        firstLetterThatHasAFault();
        endOfTheText();
        leastFaultOfALetter();
        everyLetterAsFirstWord();
        everyLetterAsLaterWord();
        everyLetterInPlaceOfANumber();
        everyLetterBehindANumber();
        emptyText();
        largestTown();
        newObject();
        townBegins();
        townBehindTowns();
        townBehindFaults();
        townWithAFault();
        faultOfTheLatest();
        whatIsTold();
        sets();
        whatOfABridge();
        whatOfACouple();
        forceOf();
        whatOfABarge();
        check.finish();
    }

    private static String times(int n, String part) {
        return part.repeat(n);
    }

    private static void lettersOfTheText() {
        check.sentence("a text (240 letters at most)");
        String whole = "b1" + times(237, " ") + ";";
        check.due("its letters", whole.length(), 240);
        check.stands(whole, 1);
        check.faulty("b1" + times(238, " "), 1, 240);
        check.faulty("b1;" + times(236, " ") + "x", 1, 239);
        check.sentence("FULL (240)");
        QuarrelBridges x = new QuarrelBridges();
        for (int i = 1; i <= 240; i++) {
            check.due("feed", x.feed(i == 1 ? 'b' : i == 2 ? '1' : ' '), i);
        }
        check.due("feed of a 241st", x.feed(';'), FULL);
        check.due("letters", x.told(5), 240);
        check.due("town without the 241st", x.town(), -11);
        check.due("fault", x.fault(), 240);
        check.due("feed behind town", x.feed(';'), 1);
    }

    private static void aLetter() {
        check.sentence("One letter (a number 0 .. 255)");
        QuarrelBridges x = new QuarrelBridges();
        check.due("feed 0", x.feed(0), 1);
        check.due("feed -1", x.feed(-1), OUTSIDE);
        check.due("feed 255", x.feed(255), 2);
        check.due("feed 256", x.feed(256), OUTSIDE);
        check.due("feed least", x.feed(Integer.MIN_VALUE), OUTSIDE);
        check.due("feed most", x.feed(Integer.MAX_VALUE), OUTSIDE);
        check.due("feed 'b' and 256", x.feed('b' + 256), OUTSIDE);
        check.due("letters", x.told(5), 2);
        check.sentence("of several the first in this order: OUTSIDE, FULL");
        for (int i = 3; i <= 240; i++) {
            x.feed(' ');
        }
        check.due("feed 256 of a full text", x.feed(256), OUTSIDE);
        check.due("feed 255 of a full text", x.feed(255), FULL);
        check.due("letters", x.told(5), 240);
    }

    private static void bridges() {
        check.sentence("1 to 6 BRIDGES; a seventh W: at its ','");
        check.faulty("b;", 1, 1);
        for (int n = 1; n <= 6; n++) {
            check.stands("b1" + times(n - 1, ",1") + ";", n);
        }
        check.faulty("b1,1,1,1,1,1,1;", 1, 12);
        check.faulty("b1,1,1,1,1,1  ,1;", 1, 14);
        check.faulty("b1,1,1,1,1,1,", 1, 12);
        check.faulty("b1,1,1,1,1,1,99;", 1, 12);
        check.faulty("b1,1,1,1,1,1 1;", 1, 13);
    }

    private static void stampsOfABridge() {
        check.sentence("STAMPS W, 1 .. 60");
        for (int p = 0; p < 6; p++) {
            String ahead = "b" + times(p, "1,");
            String behind = times(5 - p, ",1") + ";";
            check.faulty(ahead + "0" + behind, 2, ahead.length());
            check.faulty(ahead + "61" + behind, 2, ahead.length());
            check.faulty(ahead + "999" + behind, 2, ahead.length());
            check.due("W of 1", Check.of(ahead + "1" + behind).bridge(p, 0), 1);
            check.due("W of 60", Check.of(ahead + "60" + behind).bridge(p, 0), 60);
        }
    }

    private static void bridgesFirst() {
        check.sentence("another word first than 'b'");
        check.stands("b1;t1;", 1);
        check.faulty("t1;b1;", 1, 0);
        check.faulty("c1 1;b1;", 1, 0);
        check.faulty("v0 1;b1;", 1, 0);
        check.faulty("s1;b1;", 1, 0);
        check.faulty("   s1;b1;", 1, 3);
        check.faulty(";b1;", 1, 0);
    }

    private static void bridgesOnce() {
        check.sentence("'b' again (at it)");
        check.faulty("b1;b1;", 3, 3);
        check.faulty("b1; b", 3, 4);
        check.faulty("b1;t1;b", 3, 6);
        check.faulty("b1;b0;", 3, 3);
    }

    private static void themes() {
        check.sentence("THEMES 0 .. N less 1, N 1 .. 5");
        check.faulty("b1;t0;", 2, 4);
        check.faulty("b1;t6;", 2, 4);
        check.faulty("b1;t 6;", 2, 5);
        for (int n = 1; n <= 5; n++) {
            QuarrelBridges x = Check.of("b1;t" + n + ";c7 3" + times(n - 1, ",3") + ";");
            check.due("themes", x.told(1), n);
            check.due("force of the last", x.force(0, n - 1), 3);
            check.due("force behind it", x.force(0, n), UNKNOWN);
            check.due("force of -1", x.force(0, -1), UNKNOWN);
        }
    }

    private static void themesUntold() {
        check.sentence("1 untold");
        check.due("themes", Check.of("b1;").told(1), 1);
        check.due("themes with a couple", Check.of("b1;c1 1;").told(1), 1);
        check.faulty("b1;c1 1,1;", 1, 7);
        QuarrelBridges x = Check.of("b1;t5;");
        Check.feedAll(x, "b1;");
        x.town();
        check.due("themes of a later town", x.told(1), 1);
    }

    private static void themesOnce() {
        check.sentence("'t' again (at it)");
        check.stands("b1;v0 1;t2;", 1);
        check.stands("b1;s1;t2;", 1);
        check.faulty("b1;t2;t2;", 3, 6);
        check.faulty("b1;t1;v0 1;t", 3, 11);
        check.faulty("b1;t1;t9;", 3, 6);
    }

    private static void themesAheadOfCouples() {
        check.sentence("'t' behind a COUPLE (at it)");
        check.stands("b1;t1;c1 1;", 1);
        check.faulty("b1;c1 1;t1;", 3, 8);
        check.faulty("b1;t2;c1 1,1;t2;", 3, 13);
    }

    private static void couples() {
        check.sentence("6 COUPLES at most; a seventh 'c' (at it)");
        for (int n = 0; n <= 6; n++) {
            check.due("couples", Check.of("b1;" + times(n, "c1 1;")).told(2), n);
        }
        check.faulty("b1;" + times(7, "c1 1;"), 3, 33);
        check.faulty("b1;" + times(6, "c1 1;") + " c", 3, 34);
        check.faulty("b1;" + times(6, "c1 1;") + "c100 1;", 3, 33);
        QuarrelBridges x = Check.of("b1;" + times(6, "c1 1;"));
        check.due("the sixth", x.couple(5, 0), 1);
        check.due("a seventh", x.couple(6, 0), UNKNOWN);
    }

    private static void grievances() {
        check.sentence("GRIEVANCE G, 0 .. 99");
        check.due("G of 0", Check.of("b1;c0 1;").couple(0, 1), 0);
        check.due("G of 99", Check.of("b1;c99 1;").couple(0, 1), 99);
        check.faulty("b1;c100 1;", 2, 4);
        check.faulty("b1;c 999 1;", 2, 5);
        check.due("G of 99, the sixth", Check.of("b1;" + times(5, "c1 1;") + "c99 1;").couple(5, 0), 99);
        check.faulty("b1;" + times(5, "c1 1;") + "c100 1;", 2, 29);
    }

    private static void forces() {
        check.sentence("FORCE F, 0 .. 9, by each THEME");
        for (int t = 0; t < 5; t++) {
            String ahead = "b1;t5;c1 " + times(t, "1,");
            String behind = times(4 - t, ",1") + ";";
            check.due("F of 0", Check.of(ahead + "0" + behind).force(0, t), 0);
            check.due("F of 9", Check.of(ahead + "9" + behind).force(0, t), 9);
            check.faulty(ahead + "10" + behind, 2, ahead.length());
        }
    }

    private static void forcesByEachTheme() {
        check.sentence("too few F: at what is there in place of ','; too many: at the ','");
        for (int n = 1; n <= 5; n++) {
            String ahead = "b1;t" + n + ";c1 1";
            String most = times(n - 1, ",1");
            check.stands(ahead + most + ";", 1);
            check.faulty(ahead + most + ",1;", 1, (ahead + most).length());
            check.faulty(ahead + most + " ,1;", 1, (ahead + most).length() + 1);
            if (n > 1) {
                String few = ahead + times(n - 2, ",1");
                check.faulty(few + ";", 1, few.length());
                check.faulty(few + "  ;", 1, few.length() + 2);
                check.faulty(few + " 1;", 1, few.length() + 1);
                check.faulty(few + " 1000;", 1, few.length() + 1);
                check.faulty(few + "c1", 1, few.length());
                check.faulty(few, 1, few.length());
            }
        }
        check.faulty("b1;c1;", 1, 5);
        check.faulty("b1;c1,1;", 1, 5);
        check.faulty("b1;c;", 1, 4);
    }

    private static void barges() {
        check.sentence("7 BARGES at most; an eighth 'v' (at it)");
        for (int n = 0; n <= 7; n++) {
            check.due("barges", Check.of("b1;" + times(n, "v0 1;")).told(3), n);
        }
        check.faulty("b1;" + times(8, "v0 1;"), 3, 38);
        check.faulty("b1;" + times(7, "v0 1;") + "  v", 3, 40);
        check.faulty("b1;" + times(7, "v0 1;") + "v9 1;", 3, 38);
        QuarrelBridges x = Check.of("b1;" + times(7, "v0 1;"));
        check.due("the seventh", x.barge(6, 1), 1);
        check.due("an eighth", x.barge(7, 1), UNKNOWN);
    }

    private static void bargesUpTo() {
        check.sentence("up to M, 0 .. BRIDGES less 1");
        for (int n = 1; n <= 6; n++) {
            String ahead = "b1" + times(n - 1, ",1") + ";v";
            check.due("M of 0", Check.of(ahead + "0 1;").barge(0, 0), 0);
            check.due("M of the last", Check.of(ahead + (n - 1) + " 1;").barge(0, 0), n - 1);
            check.faulty(ahead + n + " 1;", 2, ahead.length());
        }
    }

    private static void tides() {
        check.sentence("to be through by minute D, 1 .. 300");
        check.faulty("b1;v0 0;", 2, 6);
        check.due("D of 1", Check.of("b1;v0 1;").barge(0, 1), 1);
        check.due("D of 300", Check.of("b1;v0 300;").barge(0, 1), 300);
        check.faulty("b1;v0 301;", 2, 6);
        check.faulty("b1;v0  999;", 2, 7);
    }

    private static void snow() {
        check.sentence("SNOW halves each STAMP, X 1; 0 not");
        check.due("X of 0", Check.of("b1;s0;").told(4), 0);
        check.due("X of 1", Check.of("b1;s1;").told(4), 1);
        check.faulty("b1;s2;", 2, 4);
        check.faulty("b1;s10;", 2, 4);
        check.faulty("b1;s;", 1, 4);
    }

    private static void snowUntold() {
        check.sentence("0 untold");
        QuarrelBridges x = Check.of("b1;s1;");
        Check.feedAll(x, "b1;");
        x.town();
        check.due("snow of a later town", x.told(4), 0);
    }

    private static void snowOnce() {
        check.sentence("'s' again (at it)");
        check.faulty("b1;s0;s0;", 3, 6);
        check.faulty("b1;s1;c1 1;v0 1; s", 3, 17);
        check.faulty("b1;s0;s2;", 3, 6);
    }

    private static void figures() {
        check.sentence("NUMBERS have one to three figures; a NUMBER of four figures or more (at its first)");
        check.due("one", Check.of("b7;").bridge(0, 0), 7);
        check.due("two", Check.of("b07;").bridge(0, 0), 7);
        check.due("three", Check.of("b007;").bridge(0, 0), 7);
        check.faulty("b0007;", 2, 1);
        check.faulty("b00007;", 2, 1);
        check.faulty("b4294967303;", 2, 1);
        check.faulty("b" + times(239, "0"), 2, 1);
        check.stands("b1;t001;s001;c001 001;v000 001;", 1);
        check.faulty("b1;t0001;", 2, 4);
        check.faulty("b1;s0001;", 2, 4);
        check.faulty("b1;c0001 1;", 2, 4);
        check.faulty("b1;c1 0001;", 2, 6);
        check.faulty("b1;v0000 1;", 2, 4);
        check.faulty("b1;v0 0001;", 2, 6);
    }

    private static void blanks() {
        check.sentence("blanks (32) may stand anywhere but within NUMBERS");
        QuarrelBridges x = Check.of("  b  12 , 3  ;  t  2  ;  c  45  6  ,  7  ;  v  1  28  ;  s  1  ;  ");
        int[] told = {2, 2, 1, 1, 1};
        for (int what = 0; what < told.length; what++) {
            check.due("told " + what, x.told(what), told[what]);
        }
        check.due("W", x.bridge(0, 0), 12);
        check.due("G", x.couple(0, 1), 45);
        check.due("F", x.force(0, 1), 7);
        check.due("D", x.barge(0, 1), 28);
        check.faulty("b1 2;", 1, 3);
        check.faulty("b1;t1 1;", 1, 6);
        check.faulty("b1;s0 1;", 1, 6);
        check.faulty("b1;v0 1 1;", 1, 8);
        check.faulty("b1;c1 1 1;", 1, 8);
    }

    private static void blanksAreOnly32() {
        check.sentence("blanks (32)");
        for (int letter = 0; letter < 256; letter++) {
            QuarrelBridges x = new QuarrelBridges();
            x.feed(letter);
            Check.feedAll(x, "b1;");
            check.due("town with " + letter + " ahead", x.town(), letter == 32 ? 1 : -11);
            check.due("fault with " + letter + " ahead", x.fault(), letter == 32 ? NONE : letter == 'b' ? 1 : 0);
        }
    }

    private static void numbersSideBySide() {
        check.sentence("two NUMBERS side by side need one");
        check.stands("b1;c4 5;v0 1;", 1);
        check.faulty("b1;c45;", 1, 6);
        check.faulty("b1;c405;", 2, 4);
        check.faulty("b1;v01;", 2, 4);
        check.faulty("b1,1;v01;", 1, 8);
        check.faulty("b1;v0,1;", 1, 5);
    }

    private static void firstLetterThatHasAFault() {
        check.sentence("FAULTS, at the first letter that has one");
        check.faulty("b61;b1;x", 2, 1);
        check.faulty("b1;b61;x", 3, 3);
        check.faulty("b1;xb61;", 1, 3);
        check.faulty("b1000x", 2, 1);
        check.faulty("b1,x,61", 1, 3);
        check.faulty("b1;c100", 2, 4);
        check.faulty("b1;v9", 2, 4);
    }

    private static void endOfTheText() {
        check.sentence("the end at the text's length");
        String text = "b12 , 3 ;t2 ;c45 6 , 7 ;v1 28 ;s1 ;";
        check.stands(text, 2);
        for (int n = 1; n < text.length(); n++) {
            String cut = text.substring(0, n);
            if (cut.trim().endsWith(";")) {
                check.stands(cut, 2);
            } else {
                check.faulty(cut, 1, n);
                check.faulty(cut + " ", 1, n + 1);
            }
        }
    }

    private static void leastFaultOfALetter() {
        check.sentence("of these the least");
        check.faulty("1000", 1, 0);
        check.faulty("b1 1000;", 1, 3);
        check.faulty("b1;1000;", 1, 3);
        check.faulty("b1 b2;", 1, 3);
        check.faulty("b1;c1 1 t1;", 1, 8);
        check.faulty("b1;s0 s0;", 1, 6);
        check.faulty("b1;" + times(6, "c1 1;").substring(0, 29) + " c1 1;", 1, 33);
        check.faulty("b1;" + times(7, "v0 1;").substring(0, 34) + "v0 1;", 1, 37);
    }

    private static void everyLetterAsFirstWord() {
        check.sentence("a letter that is no word, another word first than 'b'");
        for (int letter = 0; letter < 256; letter++) {
            if (letter != ' ' && letter != 'b') {
                check.faulty((char) letter + "1;", 1, 0);
            }
        }
    }

    private static void everyLetterAsLaterWord() {
        check.sentence("a letter that is no word");
        for (int letter = 0; letter < 256; letter++) {
            String text = "b1;" + (char) letter;
            if (letter == ' ') {
                check.stands(text, 1);
            } else if (letter == 'b') {
                check.faulty(text, 3, 3);
            } else {
                check.faulty(text, 1, "tcvs".indexOf(letter) >= 0 ? 4 : 3);
            }
        }
    }

    private static void everyLetterInPlaceOfANumber() {
        check.sentence("it cannot stand there, in place of a NUMBER");
        for (int letter = 0; letter < 256; letter++) {
            String text = "b" + (char) letter + ";";
            if (letter >= '1' && letter <= '9') {
                check.stands(text, 1);
            } else if (letter == '0') {
                check.faulty(text, 2, 1);
            } else {
                check.faulty(text, 1, letter == ' ' ? 2 : 1);
            }
        }
    }

    private static void everyLetterBehindANumber() {
        check.sentence("it cannot stand there, behind a NUMBER");
        for (int letter = 0; letter < 256; letter++) {
            String text = "b1" + (char) letter;
            if (letter == ';') {
                check.stands(text, 1);
            } else if (letter == ',' || letter == ' ' || (letter >= '0' && letter <= '9')) {
                check.faulty(text, 1, 3);
            } else {
                check.faulty(text, 1, 2);
            }
        }
    }

    private static void emptyText() {
        check.sentence("An empty text: no BRIDGES");
        check.stands("", 0);
        check.stands(times(240, " "), 0);
        QuarrelBridges x = Check.of("b5,5;t3;c9 1,1,1;v1 9;s1;");
        x.send(0, 0, 2);
        check.due("town", x.town(), 0);
        int[] told = {0, 1, 0, 0, 0, 0, 0, 0, 0, 0, 0, 0, 0, 0};
        for (int what = 0; what < told.length; what++) {
            check.due("told " + what, x.told(what), told[what]);
        }
        check.due("bridge", x.bridge(0, 0), UNKNOWN);
        check.due("couple", x.couple(0, 0), UNKNOWN);
        check.due("force", x.force(0, 0), UNKNOWN);
        check.due("barge", x.barge(0, 0), UNKNOWN);
        check.due("carried", x.carried(NONE), NOT);
    }

    private static void largestTown() {
        check.sentence("the last values that are in, all at once");
        QuarrelBridges x = Check.of("b60,60,60,60,60,60;t5;" + times(6, "c99 9,9,9,9,9;") + times(7, "v5 300;") + "s1;");
        int[] told = {6, 5, 6, 7, 1, 0, 0, 0, 0, 0, 0, 594, 0, 0};
        for (int what = 0; what < told.length; what++) {
            check.due("told " + what, x.told(what), told[what]);
        }
        for (int b = 0; b < 6; b++) {
            check.due("W", x.bridge(b, 0), 60);
        }
        for (int i = 0; i < 30; i++) {
            check.due("force", x.force(i / 5, i % 5), 9);
        }
        for (int v = 0; v < 7; v++) {
            check.due("M", x.barge(v, 0), 5);
            check.due("D", x.barge(v, 1), 300);
        }
    }

    private static void newObject() {
        check.sentence("A new object: No BRIDGES");
        QuarrelBridges x = new QuarrelBridges();
        for (int what = 0; what <= 13; what++) {
            check.due("told " + what, x.told(what), what == 1 ? 1 : 0);
        }
        check.due("fault", x.fault(), NONE);
        check.due("bridge 0", x.bridge(0, 0), UNKNOWN);
        check.due("couple 0", x.couple(0, 0), UNKNOWN);
        check.due("barge 0", x.barge(0, 0), UNKNOWN);
        check.due("undo", x.undo(), NOT);
        check.due("goBack", x.goBack(0), NOT);
        check.due("seed", x.seed(0), 0);
        check.due("judge", x.judge(), NONE);
        check.due("tear", x.tear(), 0);
    }

    private static void townBegins() {
        check.sentence("MINUTE 0, all ashore on THEME 0, no BARGE PASSED or lies; no BOOK; IMAGES, undone gone; THE SEED stays");
        String text = "b2,9;t2;c50 1,2;c2 1,1;v0 9;v1 9;v0 1;";
        QuarrelBridges x = Check.of(text);
        x.send(1, 0, 1);
        x.pass(0);
        x.send(0, 0, 1);
        x.pass(1);
        x.pass(2);
        x.seed(123);
        x.drift(2);
        x.write(0, 1);
        x.keep(0);
        x.keep(1);
        x.grieve(0, 9);
        int seed = x.seed(5);
        check.holds("the draws went on", seed != 123);
        Check.feedAll(x, text);
        check.due("town", x.town(), 2);
        int[] told = {2, 2, 2, 3, 0, 0, 0, 0, 0, 0, 0, 52, 0, 0};
        for (int what = 0; what < told.length; what++) {
            check.due("told " + what, x.told(what), told[what]);
        }
        for (int c = 0; c < 2; c++) {
            check.due("grievance", x.couple(c, 0), c == 0 ? 50 : 2);
            check.due("ashore", x.couple(c, 2), NONE);
            check.due("theme", x.couple(c, 3), 0);
            check.due("not reconciled", x.couple(c, 4), 0);
        }
        for (int v = 0; v < 3; v++) {
            check.due("waits", x.barge(v, 2), 0);
            check.due("lies", x.barge(v, 3), NONE);
            check.due("passed", x.barge(v, 4), NONE);
        }
        check.due("image 0", x.goBack(0), NOT);
        check.due("image 1", x.goBack(1), NOT);
        check.due("undo", x.undo(), NOT);
        check.due("judge", x.judge(), NONE);
        check.due("seed", x.seed(0), 5);
    }

    private static void small(String what, QuarrelBridges x) {
        Check.feedAll(x, "b5;c20 5;v0 9;");
        check.due("town " + what, x.town(), 1);
        int[] told = {1, 1, 1, 1, 0, 0, 0, 0, 0, 0, 0, 20, 0, 0};
        for (int i = 0; i < told.length; i++) {
            check.due("told " + i + " " + what, x.told(i), told[i]);
        }
        x.send(0, 0, 0);
        check.due("order " + what, x.order(NONE), 1);
        check.due("fleet " + what, x.fleet(4), 1);
        check.due("fleet of more " + what, x.fleet(5), NONE);
        check.due("lasts: 7, 6, 5, 2 " + what, x.lasts(0, 0), 4);
        check.due("toldHer by 4 of a second couple " + what, x.toldHer(0, 1, NONE), 0);
        check.due("a second bridge " + what, x.bridge(1, 0), UNKNOWN);
        check.due("a second theme " + what, x.force(0, 1), UNKNOWN);
        check.due("a second couple " + what, x.couple(1, 0), UNKNOWN);
        check.due("a second barge " + what, x.barge(1, 0), UNKNOWN);
    }

    private static void townBehindTowns() {
        check.sentence("THE TEXT becomes THE TOWN (nothing of the towns ahead of it is left)");
        for (int ahead = 1; ahead <= 3; ahead++) {
            QuarrelBridges x = Check.of(LARGE);
            for (int i = 1; i < ahead; i++) {
                Check.feedAll(x, "b1;s1;t2;");
                check.due("town between", x.town(), 1);
            }
            small("behind " + ahead, x);
        }
        QuarrelBridges x = Check.of("b1;s1;t2;");
        for (int i = 0; i < 3; i++) {
            Check.feedAll(x, "b1;s1;t2;");
            check.due("'s' and 't' once in each text", x.town(), 1);
        }
    }

    private static void townBehindFaults() {
        check.sentence("THE TEXT becomes THE TOWN (nothing of the faults ahead of it is left)");
        for (int ahead = 1; ahead <= 3; ahead++) {
            QuarrelBridges x = new QuarrelBridges();
            for (int i = 0; i < ahead; i++) {
                Check.feedAll(x, i == 0 ? LARGE + "x" : "b1;s1;t2;c1");
                check.due("a fault", x.town(), -11);
            }
            small("behind " + ahead + " faults", x);
        }
    }

    private static void townWithAFault() {
        check.sentence("-10 less the number of its FAULT (all else is as it was)");
        String[] texts = {"b2,9,", "b2,9,3;c61", "b2,9,3;c61 9,", "b61;", "b2,9,3;s1;v2 301;", "b2;t5;b", "b9;s1;c9 9;t"};
        int[] kinds = {1, 1, 1, 2, 2, 3, 3};
        int[] where = {5, 10, 12, 1, 13, 6, 11};
        for (int i = 0; i < texts.length; i++) {
            String text = texts[i];
            int due = -10 - kinds[i];
            Twins.unchangedButText(check, "town of " + text, x -> {
                Check.feedAll(x, text);
                return x.town();
            }, due, where[i]);
        }
    }

    private static void faultOfTheLatest() {
        check.sentence("The letter of the FAULT of the latest town(); NONE");
        QuarrelBridges x = new QuarrelBridges();
        check.due("without a town", x.fault(), NONE);
        Check.feedAll(x, "b1;x");
        check.due("ahead of town", x.fault(), NONE);
        x.town();
        check.due("behind a fault", x.fault(), 3);
        Check.feedAll(x, "b1");
        check.due("while the next is told", x.fault(), 3);
        x.town();
        check.due("of the latest", x.fault(), 2);
        Check.feedAll(x, "x");
        x.town();
        check.due("at letter 0", x.fault(), 0);
        Check.feedAll(x, "b1;");
        x.town();
        check.due("behind one that stands", x.fault(), NONE);
    }

    private static void whatIsTold() {
        check.sentence("told: 0 .. 13, OUTSIDE");
        QuarrelBridges x = Check.of("b1;");
        check.due("told -1", x.told(-1), OUTSIDE);
        check.due("told 0", x.told(0), 1);
        check.due("told 13", x.told(13), 0);
        check.due("told 14", x.told(14), OUTSIDE);
        check.due("told least", x.told(Integer.MIN_VALUE), OUTSIDE);
        check.due("told most", x.told(Integer.MAX_VALUE), OUTSIDE);
    }

    private static void sets() {
        check.sentence("A SET is a whole number, bit k for k");
        QuarrelBridges x = Check.of("b2;" + times(5, "c9 9;") + "c2 9;" + times(5, "v0 9;") + "v0 1;v0 1;");
        x.send(5, 0, 0);
        check.due("in time by minute 1", x.pass(6), 1);
        check.due("reconciled", x.told(7), 32);
        check.due("in time", x.told(8), 64);
        check.due("nobody there", x.pass(0), 1);
        check.due("lie", x.told(10), 1);
        x.send(0, 0, 0);
        check.due("late by minute 2", x.pass(5), 2);
        check.due("late", x.told(9), 32);
        check.due("reconciled", x.told(7), 33);
        check.due("in time", x.told(8), 64);
        check.due("lie", x.told(10), 1);
    }

    private static void whatOfABridge() {
        check.sentence("Of a BRIDGE: what = 0, 1. UNKNOWN, OUTSIDE");
        QuarrelBridges x = Check.of("b5,6;c9 9;");
        x.send(0, 1, 0);
        check.due("bridge -1", x.bridge(-1, 0), UNKNOWN);
        check.due("bridge 0", x.bridge(0, 0), 5);
        check.due("bridge 1", x.bridge(1, 0), 6);
        check.due("bridge 2", x.bridge(2, 0), UNKNOWN);
        check.due("nobody there", x.bridge(0, 1), NONE);
        check.due("couple 0 there", x.bridge(1, 1), 0);
        check.due("what -1", x.bridge(0, -1), OUTSIDE);
        check.due("what 2", x.bridge(0, 2), OUTSIDE);
        check.due("bridge 2, what 2", x.bridge(2, 2), UNKNOWN);
        check.due("bridge -1, what -1", x.bridge(-1, -1), UNKNOWN);
    }

    private static void whatOfACouple() {
        check.sentence("Of a COUPLE: what = 0 .. 4. UNKNOWN, OUTSIDE");
        QuarrelBridges x = Check.of("b5,6;t2;c7 9,8;c8 9,8;");
        x.grieve(1, 2);
        x.send(1, 1, 1);
        int[] due = {10, 8, 1, 1, 0};
        for (int what = 0; what < due.length; what++) {
            check.due("couple 1, what " + what, x.couple(1, what), due[what]);
        }
        check.due("couple -1", x.couple(-1, 0), UNKNOWN);
        check.due("couple 2", x.couple(2, 0), UNKNOWN);
        check.due("what -1", x.couple(1, -1), OUTSIDE);
        check.due("what 5", x.couple(1, 5), OUTSIDE);
        check.due("couple 2, what 5", x.couple(2, 5), UNKNOWN);
        check.due("couple -1, what -1", x.couple(-1, -1), UNKNOWN);
    }

    private static void forceOf() {
        check.sentence("FORCE. UNKNOWN");
        QuarrelBridges x = Check.of("b5;t3;c7 1,2,3;c8 4,5,6;");
        check.due("force 0, 0", x.force(0, 0), 1);
        check.due("force 0, 2", x.force(0, 2), 3);
        check.due("force 1, 0", x.force(1, 0), 4);
        check.due("force 1, 2", x.force(1, 2), 6);
        check.due("couple -1", x.force(-1, 0), UNKNOWN);
        check.due("couple 2", x.force(2, 0), UNKNOWN);
        check.due("theme -1", x.force(0, -1), UNKNOWN);
        check.due("theme 3", x.force(0, 3), UNKNOWN);
        check.due("theme 5, the next couple's place", x.force(0, 5), UNKNOWN);
    }

    private static void whatOfABarge() {
        check.sentence("Of a BARGE: what = 0 .. 4. UNKNOWN, OUTSIDE");
        QuarrelBridges x = Check.of("b5,5;c99 5;v0 1;v0 1;v1 7;v1 8;");
        x.send(0, 0, 0);
        x.pass(0);
        x.pass(1);
        x.pass(2);
        int[][] due = {{0, 1, 1, NONE, 1}, {0, 1, 2, NONE, 2}, {1, 7, 3, 1, NONE}, {1, 8, 0, NONE, NONE}};
        for (int v = 0; v < 4; v++) {
            for (int what = 0; what < 5; what++) {
                check.due("barge " + v + ", what " + what, x.barge(v, what), due[v][what]);
            }
        }
        check.due("barge -1", x.barge(-1, 0), UNKNOWN);
        check.due("barge 4", x.barge(4, 0), UNKNOWN);
        check.due("what -1", x.barge(3, -1), OUTSIDE);
        check.due("what 5", x.barge(3, 5), OUTSIDE);
        check.due("barge 4, what 5", x.barge(4, 5), UNKNOWN);
    }
}
