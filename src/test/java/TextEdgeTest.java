/** Section 1 of the document and promises 1 to 5: each sentence that names an edge of the text, by itself. */
public final class TextEdgeTest {
    private static final Check CHECK = new Check();
    private static final int NONE = Check.NONE, UNKNOWN = Check.UNKNOWN, OUTSIDE = Check.OUTSIDE, NOT = Check.NOT, FULL = Check.FULL;
    private static final String LONG_TEXT = "s10 20 5;h10,4,20;w0 6;w3 5;w1 40;r1;";
    private static final int MISPLACED = 1, OUT_OF_BOUNDS = 2, WORD_AGAIN = 3, ROPE_AGAIN = 4;

    private static void due(String call, long got, long want) {
        CHECK.due(call, got, want);
    }

    private static NightStreet fine(String text, int walkers) {
        NightStreet x = new NightStreet();
        due("street() of '" + text + "'", Check.tell(x, text), walkers);
        due("fault() of '" + text + "'", x.fault(), NONE);
        return x;
    }

    private static void fault(String text, int kind, int place) {
        NightStreet x = new NightStreet();
        due("street() of '" + text + "'", Check.tell(x, text), -10 - kind);
        due("fault() of '" + text + "'", x.fault(), place);
    }

    // ---- letters

    private static void letterBounds() {
        CHECK.sentence("A letter (0 .. 255) comes behind THE TEXT: how many it has. OUTSIDE");
        NightStreet x = new NightStreet();
        due("feed(-1)", x.feed(-1), OUTSIDE);
        due("feed(256)", x.feed(256), OUTSIDE);
        due("told(5) after refused letters", x.told(5), 0);
        due("feed(0)", x.feed(0), 1);
        due("feed(255)", x.feed(255), 2);
        for (int far : Check.FAR) {
            due("feed(" + far + ")", x.feed(far), OUTSIDE);
        }
        due("told(5)", x.told(5), 2);
        // 371 is 's' and 256 more: it must not be cut down to a letter.
        x = new NightStreet();
        due("feed(371)", x.feed('s' + 256), OUTSIDE);
        due("street() of what was refused", x.street(), 0);
    }

    private static void twoHundredLetters() {
        CHECK.sentence("a text (200 letters at most); FULL (200)");
        NightStreet x = new NightStreet();
        String text = LONG_TEXT + " ".repeat(200 - LONG_TEXT.length());
        for (int i = 0; i < 200; i++) {
            due("feed of letter " + i, x.feed(text.charAt(i)), i + 1);
        }
        due("feed the 201st", x.feed('x'), FULL);
        due("feed the 201st again", x.feed(0), FULL);
        due("OUTSIDE ahead of FULL", x.feed(256), OUTSIDE);
        due("OUTSIDE ahead of FULL", x.feed(-1), OUTSIDE);
        due("told(5)", x.told(5), 200);
        due("street(): no 201st letter is in it", x.street(), 3);
        due("told(5)", x.told(5), 0);
        due("feed behind it", x.feed('s'), 1);
    }

    private static void theLastLetterCounts() {
        CHECK.sentence("a text (200 letters at most)");
        String blanks = " ".repeat(193);
        fine(blanks + "s1 0 1;", 0);
        fault(blanks + " s1 0 1;", MISPLACED, 200);
        fault(blanks + "s1 0 1x", MISPLACED, 199);
        fault(" ".repeat(192) + "s1 0 1;s", WORD_AGAIN, 199);
        fault(" ".repeat(199) + "s", MISPLACED, 200);
        fault(" ".repeat(198) + "s", MISPLACED, 199);
    }

    private static void everyLetterFirst() {
        CHECK.sentence("1 it cannot stand there (a letter that is no word, another word first than 's')");
        for (char c = 1; c <= 255; c++) {
            if (c == 's') {
                fault("s", MISPLACED, 1);
            } else if (c != ' ') {
                fault(String.valueOf(c), MISPLACED, 0);
                fault(c + "1 0 1;", MISPLACED, 0);
                fault("   " + c, MISPLACED, 3);
            }
        }
        fault(String.valueOf((char) 0), MISPLACED, 0);
    }

    private static void everyLetterBehindAClause() {
        CHECK.sentence("1 it cannot stand there (a letter that is no word); a word is one letter");
        for (char c = 0; c <= 255; c++) {
            String text = "s1 0 1;" + c;
            if (c == ' ') {
                fine(text, 0);
            } else if (c == 's') {
                fault(text, WORD_AGAIN, 7);
            } else if (c == 'h' || c == 'w' || c == 'r') {
                fault(text, MISPLACED, 8);
                fault(text + c, MISPLACED, 8);
            } else {
                fault(text, MISPLACED, 7);
            }
        }
    }

    private static void everyLetterBehindANumber() {
        CHECK.sentence("blanks (32) may stand anywhere but within NUMBERS; two NUMBERS side by side need one");
        for (char c = 0; c <= 255; c++) {
            boolean isFigure = c >= '0' && c <= '9';
            if (c == ' ') {
                fine("s1 0 1;", 0);
                fine("s1 0 1 ;", 0);
            } else if (isFigure) {
                fault("s1" + c + "0 1;", OUT_OF_BOUNDS, 1);
                fine("s1 0 1" + c + ";", 0);
            } else {
                fault("s1" + c + "0 1;", MISPLACED, 2);
                if (c != ';') {
                    fault("s1 0 1" + c + ";", MISPLACED, 6);
                }
            }
        }
    }

    // ---- NUMBERS

    /** Every NUMBER of one to three figures in one place of a text: within its bounds, or FAULT 2 at its first figure. */
    private static void numbers(String ahead, String behind, int least, int most) {
        for (int n = 0; n <= 999; n++) {
            String plain = Integer.toString(n);
            for (String figures = plain; figures.length() <= 3; figures = "0" + figures) {
                String text = ahead + figures + behind;
                if (n >= least && n <= most) {
                    NightStreet x = new NightStreet();
                    CHECK.isTrue("street() of '" + text + "'", Check.tell(x, text) >= 0);
                    due("fault() of '" + text + "'", x.fault(), NONE);
                } else {
                    fault(text, OUT_OF_BOUNDS, ahead.length());
                }
            }
        }
        String[] tooLong = {"0000", "0001", "1000", "9999", "00001", "4294967297", "1".repeat(90), "0".repeat(90) + "1"};
        for (String figures : tooLong) {
            fault(ahead + figures + behind, OUT_OF_BOUNDS, ahead.length());
        }
        CHECK.sentence("FAULTS, at the first letter that has one");
        fault(ahead + "0000x", OUT_OF_BOUNDS, ahead.length());
        fault(ahead + (most + 1), OUT_OF_BOUNDS, ahead.length());
        fault(ahead + ";" + behind, MISPLACED, ahead.length());
        fault(ahead + "-" + most + behind, MISPLACED, ahead.length());
        fault(ahead, MISPLACED, ahead.length());
        fault(ahead + "  ", MISPLACED, ahead.length() + 2);
    }

    private static void numberBounds() {
        CHECK.sentence("P minutes, 1 .. 60");
        numbers("s", " 0 1;", 1, 60);
        CHECK.sentence("GROWS by G, 0 .. 40, yards");
        numbers("s1 ", " 1;", 0, 40);
        CHECK.sentence("for each W yards of a GAP, 1 .. 50");
        numbers("s1 0 ", ";", 1, 50);
        CHECK.sentence("each D yards by day, 1 .. 60");
        numbers("s1 0 1;h", ";", 1, 60);
        numbers("s1 0 1;h", ",1;", 1, 60);
        numbers("s1 0 1;h1,", ";", 1, 60);
        numbers("s1 0 1;h1,2,3,4,5,6,7, ", ";", 1, 60);
        CHECK.sentence("at HOUSE H told ahead; a HOUSE that was not told yet (at its first)");
        numbers("s1 0 1;h5;w", " 1;", 0, 1);
        numbers("s1 0 1;h5,5,5,5,5,5,5,5;w ", " 1;", 0, 8);
        numbers("s1 0 1;w", " 1;h5;", 0, -1);
        CHECK.sentence("PACE V 1 .. 40 yards a minute");
        numbers("s1 0 1;h5,5;w0 ", ";", 1, 40);
        CHECK.sentence("a ROPE lies along GAP K; a GAP that was not told yet (at its first)");
        numbers("s1 0 1;h5;r", ";", 0, 0);
        numbers("s1 0 1;h5,5,5,5,5,5,5,5;r", ";", 0, 7);
        numbers("s1 0 1;r", ";h5;", 0, -1);
    }

    private static void numbersAreKept() {
        CHECK.sentence("told: 0 P, 1 G, 2 W, 3 HOUSES; gap: what = 0 D; walker: 0 the HOUSE, 4 PACE; NUMBERS have one to three figures");
        for (int n = 1; n <= 60; n++) {
            NightStreet x = fine("s" + n + " " + n % 41 + " " + (1 + n % 50) + ";h" + n + ";w" + n % 2 + " " + (1 + n % 40) + ";", 1);
            due("told(0)", x.told(0), n);
            due("told(1)", x.told(1), n % 41);
            due("told(2)", x.told(2), 1 + n % 50);
            due("gap(0, 0)", x.gap(0, 0), n);
            due("walker(0, 0)", x.walker(0, 0), n % 2);
            due("walker(0, 4)", x.walker(0, 4), 1 + n % 40);
        }
        NightStreet x = fine("s007 08 009;h010;w001 012;r000;", 1);
        due("told(0)", x.told(0), 7);
        due("told(1)", x.told(1), 8);
        due("told(2)", x.told(2), 9);
        due("gap(0, 0)", x.gap(0, 0), 10);
        due("walker(0, 0)", x.walker(0, 0), 1);
        due("walker(0, 4)", x.walker(0, 4), 12);
        due("told(7)", x.told(7), 1);
    }

    // ---- clauses

    private static void sFirstAndOnce() {
        CHECK.sentence("'s' P G W ';' (first, once); 3 's' again (at it)");
        fault("h1;s1 0 1;", MISPLACED, 0);
        fault("w0 1;s1 0 1;", MISPLACED, 0);
        fault("r0;s1 0 1;", MISPLACED, 0);
        fault("s1 0 1;s1 0 1;", WORD_AGAIN, 7);
        fault("s1 0 1;  s", WORD_AGAIN, 9);
        fault("s1 0 1;h1;s1 0 1;", WORD_AGAIN, 10);
        fault("s1 0 1;h1;w0 1;s", WORD_AGAIN, 15);
        fault("s1 0 1;h1;w0 1;r0;s", WORD_AGAIN, 18);
    }

    private static void eightGaps() {
        CHECK.sentence("GAPS 0 .. less than 8: HOUSES are one more; a ninth D: at its ','");
        StringBuilder text = new StringBuilder("s1 0 1;h1");
        for (int gaps = 1; gaps <= 8; gaps++) {
            NightStreet x = fine(text + ";", 0);
            due("told(3) of " + gaps, x.told(3), gaps + 1);
            due("the last gap's day", x.gap(gaps - 1, 0), gaps);
            due("the one behind it", x.gap(gaps, 0), UNKNOWN);
            due("all gaps", x.howLong(0), gaps * (gaps + 1) / 2);
            fault(text + ",;", MISPLACED, text.length() + (gaps < 8 ? 1 : 0));
            text.append(',').append(gaps + 1);
        }
        String eight = "s1 0 1;h1,2,3,4,5,6,7,8";
        fault(eight + ",9;", MISPLACED, 23);
        fault(eight + "  ,9;", MISPLACED, 25);
        fault(eight + ",", MISPLACED, 23);
        fault(eight + ",9999", MISPLACED, 23);
        fault(eight + ",61;h", MISPLACED, 23);
        fault(eight, MISPLACED, 23);
    }

    private static void hOnce() {
        CHECK.sentence("'h' (once); 3 'h' again (at it)");
        fault("s1 0 1;h1;h1;", WORD_AGAIN, 10);
        fault("s1 0 1;h1; h", WORD_AGAIN, 11);
        fault("s1 0 1;h1;w0 1;h;", WORD_AGAIN, 15);
        fault("s1 0 1;h1;r0;h0;", WORD_AGAIN, 13);
        due("0 without 'h'", fine("s1 0 1;", 0).told(3), 0);
    }

    private static void fourWalkers() {
        CHECK.sentence("4 WALKERS at most; 3 a fifth 'w' (at it)");
        StringBuilder text = new StringBuilder("s1 0 1;h1,1;");
        for (int walkers = 0; walkers <= 4; walkers++) {
            NightStreet x = fine(text.toString(), walkers);
            due("told(4)", x.told(4), walkers);
            due("the last walker", x.walker(walkers - 1, 0), walkers == 0 ? UNKNOWN : 2);
            due("the one behind him", x.walker(walkers, 0), UNKNOWN);
            text.append("w2 1;");
        }
        String four = "s1 0 1;h1,1;w2 1;w2 1;w2 1;w2 1;";
        fault(four + "w2 1;", WORD_AGAIN, 32);
        fault(four + " w", WORD_AGAIN, 33);
        fault(four + "w9999", WORD_AGAIN, 32);
        fault(four + "r0;w", WORD_AGAIN, 35);
        fine(four + "r0;", 4);
    }

    private static void eachRopeOnce() {
        CHECK.sentence("'r' K (each once); 4 a ROPE again (at the K)");
        String street = "s1 0 1;h1,1,1,1,1,1,1,1;";
        StringBuilder text = new StringBuilder(street);
        due("no ropes", fine(street, 0).told(7), 0);
        for (int k = 7; k >= 0; k--) {
            text.append('r').append(k).append(';');
            due("told(7)", fine(text.toString(), 0).told(7), 256 - (1 << k));
            fault(text + "r" + k + ";", ROPE_AGAIN, text.length() + 1);
            fault(text + "r  " + k, ROPE_AGAIN, text.length() + 3);
            fault(text + "r00" + k + ";", ROPE_AGAIN, text.length() + 1);
            fault(text + "r7x", ROPE_AGAIN, text.length() + 1);
        }
        fault(text + "r8;", OUT_OF_BOUNDS, text.length() + 1);
        fine(text + "w0 1;", 1);
    }

    // ---- blanks, the end, the least

    private static void aBlankAnywhere() {
        CHECK.sentence("blanks (32) may stand anywhere but within NUMBERS");
        String plain = Check.seen(fine(LONG_TEXT, 3));
        StringBuilder spread = new StringBuilder();
        for (int i = 0; i <= LONG_TEXT.length(); i++) {
            boolean within = i > 0 && i < LONG_TEXT.length() && isFigure(LONG_TEXT.charAt(i - 1)) && isFigure(LONG_TEXT.charAt(i));
            if (!within) {
                String text = LONG_TEXT.substring(0, i) + "   " + LONG_TEXT.substring(i);
                CHECK.isTrue("the same street of '" + text + "'", plain.equals(Check.seen(fine(text, 3))));
            }
            spread.append(within ? "" : "  ").append(i < LONG_TEXT.length() ? LONG_TEXT.substring(i, i + 1) : "");
        }
        CHECK.isTrue("the same street of '" + spread + "'", plain.equals(Check.seen(fine(spread.toString(), 3))));
        fault("s1 0 20 5;", MISPLACED, 8);
        fault("s10 2 0 5;", OUT_OF_BOUNDS, 6);
        fault("s10 20 5 0;", MISPLACED, 9);
        fault("s10 20 5;h1 0,4;", MISPLACED, 12);
        fault("s10 20 5;h10;w0 4 0;", MISPLACED, 18);
        fault("s10 20 5;h10;r0 0;", MISPLACED, 16);
        fault("s10\t20 5;", MISPLACED, 3);
        fault("s10 20 5;\n", MISPLACED, 9);
    }

    private static boolean isFigure(char c) {
        return c >= '0' && c <= '9';
    }

    private static void theEnd() {
        CHECK.sentence("the end at the text's length");
        for (int i = 1; i < LONG_TEXT.length(); i++) {
            String text = LONG_TEXT.substring(0, i);
            if (text.endsWith(";")) {
                fine(text, text.split("w", -1).length - 1);
                fine(text + "  ", text.split("w", -1).length - 1);
            } else {
                fault(text, MISPLACED, i);
                fault(text + "  ", MISPLACED, i + 2);
            }
        }
    }

    private static void theFirstAndTheLeast() {
        CHECK.sentence("FAULTS, at the first letter that has one, of these the least");
        fault("s61 41 51;", OUT_OF_BOUNDS, 1);
        fault("s1 41 51;x", OUT_OF_BOUNDS, 3);
        fault("s1 0 51", OUT_OF_BOUNDS, 5);
        fault("s1 x 51", MISPLACED, 3);
        fault("s1 0 1;h61,0;s", OUT_OF_BOUNDS, 8);
        fault("s1 0 1;h1;w2 41;", OUT_OF_BOUNDS, 11);
        fault("s1 0 1;h1;r0;r0;h1;", ROPE_AGAIN, 14);
        fault("s1 0 1;h1;h1;r9;", WORD_AGAIN, 10);
        CHECK.sentence("of these the least: 1 ahead of 2");
        fault("9999", MISPLACED, 0);
        fault("s1 0 1;9999", MISPLACED, 7);
        fault("s1 0 1 9999;", MISPLACED, 7);
        fault("s1 0 1;h1 9999;", MISPLACED, 10);
        fault("s1 0 1;h1;w0 1 9999;", MISPLACED, 15);
        CHECK.sentence("of these the least: 1 ahead of 3");
        fault("s1 s", MISPLACED, 3);
        fault("ss", MISPLACED, 1);
        fault("s1 0 1;h1h1;", MISPLACED, 9);
        fault("s1 0 1;h1,h", MISPLACED, 10);
        fault("s1 0 1;h1;w0 1;w0 1;w0 1;w0 1w", MISPLACED, 29);
        CHECK.sentence("of these the least: 2 ahead of 4");
        fault("s1 0 1;h1;r0;r0000;", OUT_OF_BOUNDS, 14);
    }

    // ---- street(), fault(), told()

    private static void emptyText() {
        CHECK.sentence("An empty text: no STREET; `NightStreet()`: No STREET");
        String fresh = Check.seen(new NightStreet());
        NightStreet x = new NightStreet();
        due("street() of a new object", x.street(), 0);
        due("fault()", x.fault(), NONE);
        CHECK.isTrue("as a new object", fresh.equals(Check.seen(x)));
        x = busy();
        due("street() of an empty text", x.street(), 0);
        due("THE SEED stays", x.seed(0), 77);
        CHECK.isTrue("as a new object but for THE SEED", fresh.equals(Check.seen(x)));
        due("what could be undone is gone", x.undo(1), NOT);
        due("IMAGE 0 is gone", x.goBack(0), NOT);
        due("IMAGE 1 is gone", x.goBack(1), NOT);
        due("minute", x.minute(1), NOT);
        due("a street again", Check.tell(x, LONG_TEXT), 3);
        due("and another", Check.tell(x, LONG_TEXT), 3);
        due("street() of an empty text", x.street(), 0);
        CHECK.isTrue("nothing is left over of either", fresh.equals(Check.seen(x)));
    }

    /** Something of all that a street can have. */
    private static NightStreet busy() {
        NightStreet x = Check.street("s7 3 2;h5,6,7;w1 4;w3 1;r1;");
        x.seed(77);
        x.go(0, 2);
        x.minute(3);
        x.keep(1);
        x.go(1, 0);
        x.keep(0);
        x.rope(0, true);
        x.minute(1);
        x.met(0, 1);
        x.write(0, 1);
        return x;
    }

    private static void faultEmptiesTheText() {
        CHECK.sentence("THE TEXT (it is empty then, with a FAULT, too); (all is as it was)");
        String before = Check.seen(busy()).replaceFirst("\\|-1\\|", "|9|");
        NightStreet x = busy();
        due("street()", Check.tell(x, "s1 0 1;h1xh1;"), -11);
        due("told(5)", x.told(5), 0);
        CHECK.isTrue("all is as it was", before.equals(Check.seen(x)));
        due("what could be undone is kept", x.undo(2), 3);
        due("IMAGE 1 is kept", x.goBack(1), 1);
        due("IMAGE 0 is kept", x.goBack(0), 1);
        due("feed begins again", x.feed('s'), 1);
        x = busy();
        Check.tell(x, "x");
        due("the text is empty now: no STREET", x.street(), 0);
        due("told(0)", x.told(0), 0);
        due("fault()", x.fault(), NONE);
    }

    private static void newStreet() {
        CHECK.sentence("minute 0, all STAND, nobody GOES; nothing MET, no BOOK; IMAGES, what could be undone are gone; THE SEED stays");
        NightStreet x = busy();
        String text = "s9 8 7;h6,5;w2 3;r1;";
        due("street()", Check.tell(x, text), 1);
        due("the seed", x.seed(0), 77);
        CHECK.isTrue("as of a new object", Check.seen(Check.street(text)).equals(Check.seen(x)));
        due("WALKER 1 is gone", x.walker(1, 0), UNKNOWN);
        due("GAP 2 is gone", x.gap(2, 0), UNKNOWN);
        due("undo(1)", x.undo(1), NOT);
        due("goBack(0)", x.goBack(0), NOT);
        due("goBack(1)", x.goBack(1), NOT);
        due("fewer clauses", Check.tell(x, "s1 0 1;"), 0);
        due("no HOUSES left over", x.told(3), 0);
        due("no WALKERS left over", x.told(4), 0);
        due("no ROPES left over", x.told(7), 0);
    }

    private static void latestFault() {
        CHECK.sentence("The letter of the FAULT of the latest street(); NONE.");
        NightStreet x = new NightStreet();
        due("fault() at first", x.fault(), NONE);
        Check.tell(x, "   x");
        due("fault()", x.fault(), 3);
        Check.feedAll(x, "s1 0 1;");
        due("fault() while a text is told", x.fault(), 3);
        x.feed(256);
        due("fault() after a refused letter", x.fault(), 3);
        due("street()", x.street(), 0);
        due("fault() without one", x.fault(), NONE);
        Check.tell(x, "x");
        due("fault()", x.fault(), 0);
        x.minute(1);
        x.keep(0);
        x.goBack(0);
        due("fault() after deeds", x.fault(), 0);
    }

    private static void toldBounds() {
        CHECK.sentence("told: 0 P .. 10 how many can be undone. OUTSIDE.");
        NightStreet x = busy();
        x.feed('s');
        x.feed('1');
        int[] due = {7, 3, 2, 4, 2, 2, 4, 3, 1, 1, 2};
        for (int what = 0; what <= 10; what++) {
            due("told(" + what + ")", x.told(what), due[what]);
        }
        due("told(-1)", x.told(-1), OUTSIDE);
        due("told(11)", x.told(11), OUTSIDE);
        for (int far : Check.FAR) {
            due("told(" + far + ")", x.told(far), OUTSIDE);
        }
    }

    public static void main(String[] args) {
        letterBounds();
        twoHundredLetters();
        theLastLetterCounts();
        everyLetterFirst();
        everyLetterBehindAClause();
        everyLetterBehindANumber();
        numberBounds();
        numbersAreKept();
        sFirstAndOnce();
        eightGaps();
        hOnce();
        fourWalkers();
        eachRopeOnce();
        aBlankAnywhere();
        theEnd();
        theFirstAndTheLeast();
        emptyText();
        faultEmptiesTheText();
        newStreet();
        latestFault();
        toldBounds();
        CHECK.end();
    }
}
