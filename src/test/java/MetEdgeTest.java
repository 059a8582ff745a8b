/** What was MET, THE BOOK, and promises 24 to 30, at the edges. */
public final class MetEdgeTest {
    private static final Check CHECK = new Check();
    private static final int NONE = Check.NONE, UNKNOWN = Check.UNKNOWN, OUTSIDE = Check.OUTSIDE, FULL = Check.FULL;
    private static final int ALL_GROWTHS = (1 << 30) - 1;

    private static void due(String call, long got, long want) {
        CHECK.due(call, got, want);
    }

    private static void fits(NightStreet x, int count, int first, int last) {
        due("fits(0)", x.fits(0), count);
        due("fits(1)", x.fits(1), first);
        due("fits(2)", x.fits(2), last);
    }

    private static NightStreet met(String street, int... pairs) {
        NightStreet x = Check.street(street);
        for (int i = 0; i + 1 < pairs.length; i += 2) {
            x.met(pairs[i], pairs[i + 1]);
        }
        return x;
    }

    // ---- MET

    private static void metBounds() {
        CHECK.sentence("MET (6 at most): in GAP k there were n NIGHT HOUSES (0 .. 999): how much. UNKNOWN, OUTSIDE, FULL (6).");
        NightStreet x = Check.street("s1 0 1;h1,1,1,1,1,1,1,1;");
        due("k 8", x.met(8, 0), UNKNOWN);
        due("k -1", x.met(-1, 0), UNKNOWN);
        due("k 8, n 1000", x.met(8, 1000), UNKNOWN);
        due("n -1", x.met(7, -1), OUTSIDE);
        due("n 1000", x.met(0, 1000), OUTSIDE);
        due("nothing MET", x.told(8), 0);
        due("k 0, n 0", x.met(0, 0), 1);
        due("k 7, n 0", x.met(7, 0), 2);
        due("the same again", x.met(7, 0), 3);
        due("k 1, n 0", x.met(1, 0), 4);
        due("the fifth", x.met(2, 0), 5);
        fits(x, 2, 0, 1);
        due("the sixth, n 999", x.met(3, 999), 6);
        fits(x, 0, NONE, NONE);
        due("the seventh", x.met(3, 999), FULL);
        due("the seventh, n 0", x.met(0, 0), FULL);
        due("UNKNOWN ahead of FULL", x.met(8, 0), UNKNOWN);
        due("OUTSIDE ahead of FULL", x.met(0, 1000), OUTSIDE);
        due("OUTSIDE ahead of FULL", x.met(0, -1), OUTSIDE);
        due("told(8)", x.told(8), 6);
        due("tear()", x.tear(), 6);
        due("the first again", x.met(0, 0), 1);
        due("without HOUSES", Check.street("s1 0 1;").met(0, 0), UNKNOWN);
        due("without a STREET", new NightStreet().met(0, 1000), UNKNOWN);
    }

    private static void theSixthCounts() {
        CHECK.sentence("at which all that was MET would be so");
        for (int wrong = 0; wrong < 6; wrong++) {
            NightStreet x = Check.street("s5 10 1;h3;");
            for (int i = 0; i < 6; i++) {
                x.met(0, i == wrong ? 4 : 2);
            }
            fits(x, 0, NONE, NONE);
            due("growths()", x.growths(), 0);
            due("lookAt()", x.lookAt(), NONE);
        }
    }

    // ---- FITS

    private static void fitsOverTheNight() {
        CHECK.sentence("FITS: minutes t of the NIGHT (0 to 2 P less 1): how many; the first; the last; NONE");
        fits(met("s1 0 1;h5;"), 2, 0, 1);
        fits(met("s60 40 1;h5;"), 120, 0, 119);
        fits(met("s60 40 1;"), 120, 0, 119);
        // NIGHT HOUSES are t or 2 P less t, the lesser.
        String street = "s60 10 1;h1;";
        fits(met(street, 0, 0), 1, 0, 0);
        fits(met(street, 0, 1), 2, 1, 119);
        fits(met(street, 0, 59), 2, 59, 61);
        fits(met(street, 0, 60), 1, 60, 60);
        fits(met(street, 0, 61), 0, NONE, NONE);
        fits(met(street, 0, 999), 0, NONE, NONE);
        fits(met("s1 10 1;h1;", 0, 1), 1, 1, 1);
        fits(met("s1 10 1;h1;", 0, 2), 0, NONE, NONE);
        CHECK.sentence("NIGHT HOUSES 0 at least: MET 0");
        fits(met("s10 10 10;h15;", 0, 0), 9, 0, 19);
        fits(met("s10 10 10;h15;", 0, 1), 11, 5, 15);
        fits(met("s10 0 50;h1;", 0, 0), 20, 0, 19);
        CHECK.sentence("two GAPS: all that was MET");
        fits(met("s10 10 10;h15,19;", 0, 0, 1, 1), 8, 1, 19);
        fits(met("s10 10 10;h15,19;", 0, 1, 1, 0), 0, NONE, NONE);
    }

    private static void fitsIsNotOfNow() {
        CHECK.sentence("FITS: minutes t of the NIGHT, whatever is now; OUTSIDE");
        NightStreet x = met("s60 10 1;h1;", 0, 7);
        fits(x, 2, 7, 113);
        x.minute(60);
        fits(x, 2, 7, 113);
        x.undo(30);
        due("told(8) is not undone", x.told(8), 1);
        due("fits(-1)", x.fits(-1), OUTSIDE);
        due("fits(3)", x.fits(3), OUTSIDE);
        x = new NightStreet();
        fits(x, 0, NONE, NONE);
        due("fits(-1) without a STREET", x.fits(-1), OUTSIDE);
        due("fits(3) without a STREET", x.fits(3), OUTSIDE);
    }

    // ---- GROWTHS

    private static void growths() {
        CHECK.sentence("GROWTHS: numbers 0 to 29 for G (a SET) by which that could be at some minute");
        String street = "s10 40 1;h1;";
        due("nothing MET", met(street).growths(), ALL_GROWTHS);
        due("0: at minute 0", met(street, 0, 0).growths(), ALL_GROWTHS);
        due("1: 1 .. 19", met(street, 0, 1).growths(), (1 << 20) - 2);
        due("28: 28 alone", met(street, 0, 28).growths(), 1 << 28);
        due("29: 29 alone, the last", met(street, 0, 29).growths(), 1 << 29);
        due("30: none of these", met(street, 0, 30).growths(), 0);
        NightStreet x = met(street, 0, 32);
        fits(x, 2, 8, 12);
        due("32: by 40 alone, which is none of these", x.growths(), 0);
        due("4 at P 1: none", met("s1 40 1;h1;", 0, 4).growths(), 0);
        due("2 at P 1: 20 .. 29", met("s1 40 1;h1;", 0, 2).growths(), ALL_GROWTHS - ((1 << 20) - 1));
        CHECK.sentence("GROWTHS: 0 is the first number; what is so by 0 is so at minute 0 by all");
        due("as by day", met("s10 0 1;h5,1;", 0, 4, 1, 0).growths(), ALL_GROWTHS);
        due("0 NIGHT HOUSES", met("s1 40 50;h60;", 0, 0).growths(), ALL_GROWTHS);
        due("1 NIGHT HOUSE: it would need 40 yards more", met("s1 40 50;h60;", 0, 1).growths(), 0);
        CHECK.sentence("GROWTHS at some minute: one for all that was MET");
        // GAP 1 has always one more than GAP 0.
        due("29 and 30", met("s10 40 1;h1,2;", 0, 29, 1, 30).growths(), 1 << 29);
        due("3 and 3", met("s10 40 1;h1,2;", 0, 3, 1, 3).growths(), 0);
        CHECK.sentence("GROWTHS without a STREET: there is no minute");
        due("a new object", new NightStreet().growths(), 0);
        due("without HOUSES nothing was MET", Check.street("s1 0 1;").growths(), ALL_GROWTHS);
    }

    // ---- LOOK AT

    private static void lookAt() {
        CHECK.sentence("LOOK AT: the greatest part that would be alike is least; of like ones the least");
        // 3 4 5 6 5 4 yards: 0 1 1 2 1 1; 2 3 4 5 4 3 yards: 0 0 1 1 1 0. Parts 4 of 6 and 3 of 6.
        due("the second", met("s3 10 2;h3,2;").lookAt(), 1);
        due("the first", met("s3 10 2;h2,3;").lookAt(), 0);
        due("of like ones the least", met("s3 10 2;h2,2,2;").lookAt(), 0);
        due("of like ones the least", met("s3 10 2;h3,2,2;").lookAt(), 1);
        due("the last of eight", met("s3 10 2;h3,3,3,3,3,3,3,2;").lookAt(), 7);
        // 1 2 3 2 yards have no NIGHT HOUSE of 10 yards; 19 20 21 20 have 0 1 1 1.
        due("the one that parts them", met("s2 10 10;h1,1,19;").lookAt(), 2);
        due("the part may be but one less than all", met("s2 10 10;h19,1;").lookAt(), 0);
    }

    private static void lookAtNothing() {
        CHECK.sentence("NONE: none parts them");
        due("no growth", met("s60 0 1;h1,60;").lookAt(), NONE);
        due("growth below a yard", met("s9 1 1;h1,60;").lookAt(), NONE);
        due("no NIGHT HOUSES at all", met("s2 10 50;h1,2;").lookAt(), NONE);
        due("one minute fits", met("s60 10 1;h1,2;", 0, 60).lookAt(), NONE);
        due("one minute fits, with the most NIGHT HOUSES", met("s60 40 1;h60;", 0, 299).lookAt(), NONE);
        due("two that are alike everywhere", met("s60 10 1;h1,2;", 0, 59).lookAt(), NONE);
        due("no minute fits", met("s60 10 1;h1,2;", 0, 61).lookAt(), NONE);
        due("no GAPS", met("s60 10 1;").lookAt(), NONE);
        due("no STREET", new NightStreet().lookAt(), NONE);
        CHECK.sentence("LOOK AT: these minutes (that fit)");
        // GAP 0 has 1 at 2, 3 and 4 (4 5 4 yards); GAP 1 has 1 2 1 then (5 6 5 yards).
        NightStreet x = met("s3 10 2;h2,3;", 0, 1);
        fits(x, 3, 2, 4);
        due("GAP 1 parts what GAP 0 does not", x.lookAt(), 1);
        x.met(1, 1);
        fits(x, 2, 2, 4);
        due("then none", x.lookAt(), NONE);
    }

    // ---- THE BOOK

    private static void bookBounds() {
        CHECK.sentence("THE BOOK (20 at most): An entry behind THE BOOK: how many. UNKNOWN, FULL (20).");
        NightStreet x = Check.street("s1 0 1;h1,1,1,1,1,1,1,1;w0 1;w8 1;w4 1;w4 1;");
        due("w 4", x.write(4, 0), UNKNOWN);
        due("w -1", x.write(-1, 0), UNKNOWN);
        due("h 9", x.write(0, 9), UNKNOWN);
        due("h -1", x.write(0, -1), UNKNOWN);
        due("no BOOK", x.told(9), 0);
        for (int i = 1; i <= 20; i++) {
            due("write " + i, i == 20 ? x.write(0, 0) : i == 19 ? x.write(3, 4) : x.write(1, 8), i);
        }
        due("the 21st", x.write(0, 0), FULL);
        due("the 21st, wrong", x.write(0, 8), FULL);
        due("UNKNOWN ahead of FULL", x.write(4, 0), UNKNOWN);
        due("UNKNOWN ahead of FULL", x.write(0, 9), UNKNOWN);
        due("told(9)", x.told(9), 20);
        due("no refused one is judged", x.judge(), NONE);
        due("without WALKERS", Check.street("s1 0 1;h1;").write(0, 0), UNKNOWN);
        due("without HOUSES", Check.street("s1 0 1;").write(0, 0), UNKNOWN);
        due("without a STREET", new NightStreet().write(0, 0), UNKNOWN);
    }

    private static void wrongOnes() {
        CHECK.sentence("WRONG: the first that is otherwise now; NONE");
        due("no BOOK", Check.street("s1 0 1;h1;w0 1;").judge(), NONE);
        due("no STREET", new NightStreet().judge(), NONE);
        for (int wrong = 0; wrong < 20; wrong++) {
            NightStreet x = Check.street("s1 0 1;h2;w0 1;w1 1;");
            for (int i = 0; i < 20; i++) {
                x.write(i % 2, i == wrong ? 1 - i % 2 : i % 2);
            }
            due("judge()", x.judge(), wrong);
            x.go(0, 2);
            x.minute(1);
            due("IN a GAP he STANDS at no HOUSE", x.judge(), 0);
            x.undo(1);
            due("as it was", x.judge(), wrong);
        }
        NightStreet x = Check.street("s1 0 1;h2;w0 1;");
        x.write(0, 1);
        x.go(0, 2);
        due("he is not there yet", x.judge(), 0);
        x.minute(1);
        due("IN a GAP", x.judge(), 0);
        x.minute(1);
        due("he is there now", x.judge(), NONE);
        x.write(0, 0);
        due("he was there", x.judge(), 1);
    }

    private static void tear() {
        CHECK.sentence("Nothing MET, no BOOK: how much both had.");
        NightStreet x = Check.street("s1 0 1;h1;w0 1;");
        due("neither", x.tear(), 0);
        x.met(0, 0);
        due("one MET", x.tear(), 1);
        x.write(0, 0);
        due("one entry", x.tear(), 1);
        for (int i = 0; i < 20; i++) {
            x.met(0, i);
            x.write(0, 1);
        }
        due("both full", x.tear(), 26);
        due("told(8)", x.told(8), 0);
        due("told(9)", x.told(9), 0);
        due("judge()", x.judge(), NONE);
        fits(x, 2, 0, 1);
        due("neither", x.tear(), 0);
        due("no STREET", new NightStreet().tear(), 0);
    }

    private static void neitherUndoneNorKept() {
        CHECK.sentence("IMAGES keep these (section 2, ROPES), THE SEED: not what was MET, no BOOK; nor are they UNDONE");
        NightStreet x = Check.street("s1 10 1;h1;w0 1;");
        x.met(0, 0);
        x.write(0, 0);
        due("met(), write() cannot be undone", x.told(10), 0);
        x.keep(0);
        x.met(0, 1);
        x.write(0, 1);
        x.minute(1);
        x.undo(1);
        due("told(8) after undo()", x.told(8), 2);
        due("told(9) after undo()", x.told(9), 2);
        x.goBack(0);
        due("told(8) after goBack()", x.told(8), 2);
        due("told(9) after goBack()", x.told(9), 2);
        x.tear();
        due("tear() cannot be undone", x.told(10), 0);
        x.goBack(0);
        due("told(8) after tear(), goBack()", x.told(8), 0);
        due("told(9) after tear(), goBack()", x.told(9), 0);
    }

    public static void main(String[] args) {
        metBounds();
        theSixthCounts();
        fitsOverTheNight();
        fitsIsNotOfNow();
        growths();
        lookAt();
        lookAtNothing();
        bookBounds();
        wrongOnes();
        tear();
        neitherUndoneNorKept();
        CHECK.end();
    }
}
