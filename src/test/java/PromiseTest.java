/** Promises 1 to 33, each with answers that were reckoned by hand from the document. */
public final class PromiseTest {
    private static final Check CHECK = new Check();
    private static final int NONE = Check.NONE, UNKNOWN = Check.UNKNOWN, OUTSIDE = Check.OUTSIDE, NOT = Check.NOT, FULL = Check.FULL;

    /** A GAP has one yard more each minute up to minute 5, and one less down to minute 10. */
    private static final String SHORT = "s5 10 4;h8,12;w0 3;w2 5;r0;";
    /** Yards never change. */
    private static final String EVEN = "s3 0 5;h10,10,10;w0 5;w3 5;w1 10;";

    private static void due(String call, long got, long want) {
        CHECK.due(call, got, want);
    }

    private static void newObject() {
        NightStreet x = new NightStreet();
        for (int what = 0; what <= 10; what++) {
            due("new told " + what, x.told(what), 0);
        }
        due("new fault", x.fault(), NONE);
        due("new gap", x.gap(0, 0), UNKNOWN);
        due("new walker", x.walker(0, 0), UNKNOWN);
        noStreet(x);
        x = Check.street(SHORT);
        x.minute(3);
        x.met(0, 1);
        x.keep(0);
        due("street of an empty text", x.street(), 0);
        for (int what = 0; what <= 10; what++) {
            due("told " + what + " after an empty text", x.told(what), 0);
        }
        due("goBack after an empty text", x.goBack(0), NOT);
        noStreet(x);
    }

    private static void noStreet(NightStreet x) {
        due("go", x.go(0, 2), UNKNOWN);
        due("rope", x.rope(0, true), UNKNOWN);
        due("minute", x.minute(1), NOT);
        due("minute of 0", x.minute(0), OUTSIDE);
        due("drift", x.drift(60), NOT);
        due("drift of 61", x.drift(61), OUTSIDE);
        due("undo", x.undo(1), NOT);
        due("apart", x.apart(0, 1), UNKNOWN);
        due("howLong", x.howLong(0), NOT);
        due("howLong(121)", x.howLong(121), OUTSIDE);
        due("takes", x.takes(0, 1, 1, 0), UNKNOWN);
        due("setOut", x.setOut(0, 1, 1, 0, 0), UNKNOWN);
        due("comes", x.comes(0, 0), UNKNOWN);
        due("meets", x.meets(0, 1), UNKNOWN);
        due("ropes", x.ropes(0, 1, 1, 1), UNKNOWN);
        due("doctor", x.doctor(1, 0), NONE);
        due("doctor's time", x.doctor(40, 1), NONE);
        due("doctor of 0", x.doctor(0, 0), OUTSIDE);
        due("beat", x.beat(1), NOT);
        due("beat of 41", x.beat(41), OUTSIDE);
        due("rent", x.rent(1), NOT);
        due("rent of -1", x.rent(-1), OUTSIDE);
        due("lamp", x.lamp(60, 1000), 1000000000);
        due("met", x.met(0, 0), UNKNOWN);
        due("fits 0", x.fits(0), 0);
        due("fits 1", x.fits(1), NONE);
        due("fits 2", x.fits(2), NONE);
        due("growths", x.growths(), 0);
        due("lookAt", x.lookAt(), NONE);
        due("write", x.write(0, 0), UNKNOWN);
        due("judge", x.judge(), NONE);
        due("tear", x.tear(), 0);
        due("goBack", x.goBack(1), NOT);
        due("keep", x.keep(1), 1);
        due("goBack to it", x.goBack(1), 1);
    }

    private static void streetWithoutHouses() {
        NightStreet x = Check.street("s2 5 3;");
        due("told 0", x.told(0), 2);
        due("told 1", x.told(1), 5);
        due("told 2", x.told(2), 3);
        due("told 3", x.told(3), 0);
        due("howLong", x.howLong(2), 0);
        due("minute", x.minute(2), 2);
        due("drift", x.drift(1), 3);
        due("seed untouched", x.seed(0), 0);
        due("undo", x.undo(2), 1);
        due("beat", x.beat(1), NOT);
        due("doctor", x.doctor(1, 0), NONE);
        due("rent", x.rent(120), 0);
        due("lamp", x.lamp(1, 500), 1000000000);
        due("fits", x.fits(0), 4);
        due("fits last", x.fits(2), 3);
        due("lookAt", x.lookAt(), NONE);
        due("growths", x.growths(), (1 << 30) - 1);
    }

    private static void toldAndGap() {
        NightStreet x = Check.street(SHORT);
        int[] told = {5, 10, 4, 3, 2, 0, 0, 1, 0, 0, 0};
        for (int what = 0; what < told.length; what++) {
            due("told " + what, x.told(what), told[what]);
        }
        due("told -1", x.told(-1), OUTSIDE);
        due("told 11", x.told(11), OUTSIDE);
        int[] first = {8, 9, 10, 11, 12, 13, 12, 11, 10, 9, 8};
        int[] firstHouses = {1, 1, 1, 1, 2, 2, 2, 1, 1, 1, 1};
        int[] secondHouses = {2, 2, 2, 2, 3, 3, 3, 2, 2, 2, 2};
        for (int t = 0; t <= 10; t++) {
            due("gap 0 day", x.gap(0, 0), 8);
            due("gap 0 yards at " + t, x.gap(0, 1), first[t]);
            due("gap 1 yards at " + t, x.gap(1, 1), first[t] + 4);
            due("gap 0 night houses at " + t, x.gap(0, 2), firstHouses[t]);
            due("gap 1 night houses at " + t, x.gap(1, 2), secondHouses[t]);
            due("told 6", x.told(6), t);
            due("minute", x.minute(1), t + 1);
        }
        due("gap 0 rope", x.gap(0, 3), 1);
        due("gap 1 rope", x.gap(1, 3), 0);
        due("gap 2", x.gap(2, 0), UNKNOWN);
        due("gap -1", x.gap(-1, 9), UNKNOWN);
        due("gap 0 what 4", x.gap(0, 4), OUTSIDE);
        due("gap 0 what -1", x.gap(0, -1), OUTSIDE);
        x = Check.street("s10 7 50;h9;");
        x.minute(9);
        due("G times t is cut by ten once", x.gap(0, 1), 9 + 63 / 10);
        due("no NIGHT HOUSES below 0", x.gap(0, 2), 0);
    }

    private static void walker(NightStreet x, int w, int house, int in, int yards, int way, int where) {
        due("house of " + w, x.walker(w, 0), house);
        due("gap of " + w, x.walker(w, 1), in);
        due("yards of " + w, x.walker(w, 2), yards);
        due("way of " + w, x.walker(w, 3), way);
        due("where " + w, x.walker(w, 5), where);
    }

    private static void walkersWalk() {
        NightStreet x = Check.street(SHORT);
        walker(x, 0, 0, NONE, 0, 1, 0);
        walker(x, 1, 2, NONE, 0, 1, 20);
        due("pace", x.walker(1, 4), 5);
        due("walker 2", x.walker(2, 0), UNKNOWN);
        due("walker -1", x.walker(-1, 6), UNKNOWN);
        due("walker what 6", x.walker(0, 6), OUTSIDE);
        due("walker what -1", x.walker(0, -1), OUTSIDE);
        due("go up", x.go(0, 2), 0);
        due("go down", x.go(1, 0), 20);
        x.minute(1);
        walker(x, 0, NONE, 0, 6, 2, 6);
        walker(x, 1, NONE, 1, 5, 0, 9 + 13 - 5);
        x.minute(1);
        walker(x, 0, 1, NONE, 0, 2, 10);
        walker(x, 1, NONE, 1, 10, 0, 10 + 14 - 10);
        x.minute(1);
        walker(x, 0, NONE, 1, 3, 2, 11 + 3);
        walker(x, 1, 1, NONE, 0, 0, 11);
        x.minute(1);
        walker(x, 1, NONE, 0, 10, 0, 2);
        x.minute(1);
        walker(x, 1, 0, NONE, 0, 0, 0);
        x.minute(1);
        walker(x, 1, 0, NONE, 0, 1, 0);
    }

    private static void goAndTurn() {
        NightStreet x = Check.street(SHORT);
        due("go of no walker", x.go(2, 9), UNKNOWN);
        due("go of -1", x.go(-1, 0), UNKNOWN);
        due("go way 3", x.go(0, 3), OUTSIDE);
        due("go way -1", x.go(0, -1), OUTSIDE);
        x.go(1, 0);
        x.minute(2);
        due("not, in a gap", x.go(1, 1), NOT);
        due("undoable yet", x.told(10), 3);
        due("the same way", x.go(1, 0), 14);
        walker(x, 1, NONE, 1, 10, 0, 14);
        due("turned", x.go(1, 2), 14);
        walker(x, 1, NONE, 1, 4, 2, 14);
        due("turned again", x.go(1, 0), 14);
        walker(x, 1, NONE, 1, 10, 0, 14);
        x.go(1, 2);
        x.minute(2);
        walker(x, 1, NONE, 1, 14, 2, 12 + 14);
        x.minute(1);
        walker(x, 1, 2, NONE, 0, 2, 13 + 17);
        due("not, at a house", x.go(1, 1), 30);
        x.minute(1);
        walker(x, 1, 2, NONE, 0, 1, 12 + 16);
        // A street that shrinks may leave a walker further on than his GAP is long.
        x = Check.street("s10 40 1;h1;w0 20;w1 20;");
        x.minute(10);
        x.go(0, 2);
        x.go(1, 0);
        x.minute(1);
        walker(x, 0, NONE, 0, 20, 2, 20);
        x.rope(0, true);
        x.rope(0, false);
        x.undo(2);
        x.minute(1);
        walker(x, 0, 1, NONE, 0, 2, 33);
        walker(x, 1, 0, NONE, 0, 0, 0);
    }

    private static void fartherThanTheGap() {
        // 36 of 37 yards at minute 11; at minute 12 the GAP has 33.
        NightStreet x = Check.street("s10 40 1;h1;w0 18;w1 18;");
        x.minute(10);
        x.go(0, 2);
        x.go(1, 0);
        x.minute(2);
        walker(x, 0, NONE, 0, 36, 2, 33);
        walker(x, 1, NONE, 0, 36, 0, 0);
        due("apart no more than the gap", x.apart(0, 1), 33);
        due("turned beyond the end", x.go(0, 0), 33);
        walker(x, 0, NONE, 0, 0, 0, 33);
        due("turned beyond the start", x.go(1, 2), 0);
        walker(x, 1, NONE, 0, 0, 2, 0);
    }

    private static void ropeAndUndo() {
        NightStreet x = Check.street(SHORT);
        due("rope lies there", x.rope(0, false), 1);
        due("rope gone", x.rope(0, false), 0);
        due("rope 1", x.rope(1, true), 0);
        due("ropes", x.told(7), 2);
        due("rope 2", x.rope(2, true), UNKNOWN);
        due("rope -1", x.rope(-1, true), UNKNOWN);
        due("rope 32", x.rope(32, true), UNKNOWN);
        due("undoable", x.told(10), 3);
        due("undo 0", x.undo(0), OUTSIDE);
        due("undo 31", x.undo(31), OUTSIDE);
        due("undo -1", x.undo(-1), OUTSIDE);
        due("undo 4", x.undo(4), NOT);
        due("undo 2", x.undo(2), 0);
        due("ropes", x.told(7), 0);
        due("undoable", x.told(10), 1);
        x.go(0, 2);
        x.minute(2);
        due("undo a minute", x.undo(1), 1);
        walker(x, 0, NONE, 0, 3, 2, 3);
        due("undo the other and go", x.undo(2), 0);
        walker(x, 0, 0, NONE, 0, 1, 0);
        x.minute(29);
        due("undoable", x.told(10), 30);
        x.go(0, 2);
        due("still", x.told(10), 30);
        due("undo 30", x.undo(30), 0);
        due("the first rope's undoing is lost", x.told(7), 0);
        due("none left", x.told(10), 0);
        due("undo 1", x.undo(1), NOT);
        x.minute(60);
        due("undo 30", x.undo(30), 30);
        due("undo 1", x.undo(1), NOT);
    }

    private static void minutes() {
        NightStreet x = Check.street(EVEN);
        for (int far : Check.FAR) {
            due("minute " + far, x.minute(far), OUTSIDE);
            due("drift " + far, x.drift(far), OUTSIDE);
            due("undo " + far, x.undo(far), OUTSIDE);
        }
        due("minute 0", x.minute(0), OUTSIDE);
        due("minute 61", x.minute(61), OUTSIDE);
        due("drift 0", x.drift(0), OUTSIDE);
        due("minute 60", x.minute(60), 60);
        due("minute 1", x.minute(1), 61);
        due("drift 60", x.drift(60), 121);
    }

    private static void drifting() {
        NightStreet x = Check.street("s1 0 1;h5,5,5;w1 5;w2 1;");
        // By the seed's rule from 0 on: 12345, 1406932606, 654583775 (draws of 4: 0, 0, 0), 1449466924,
        // 229283573, 1109335178, 1051550459, 1293799192, 794471793 (1, 2, 3, 1, 1, 2).
        due("drift 1", x.drift(1), 1);
        walker(x, 0, 2, NONE, 0, 2, 10);
        walker(x, 1, NONE, 2, 1, 2, 11);
        due("undo", x.undo(1), 0);
        walker(x, 0, 1, NONE, 0, 1, 5);
        walker(x, 1, 2, NONE, 0, 1, 10);
        due("the seed stays", x.seed(654583775), 1406932606);
        due("drift 1", x.drift(1), 1);
        walker(x, 0, 0, NONE, 0, 0, 0);
        walker(x, 1, 2, NONE, 0, 1, 10);
        due("drift 1", x.drift(1), 2);
        walker(x, 0, 0, NONE, 0, 1, 0);
        walker(x, 1, NONE, 1, 1, 0, 9);
        // Walker 1 is IN a GAP now: he draws nothing.
        due("drift 2", x.drift(2), 4);
        walker(x, 0, 0, NONE, 0, 1, 0);
        walker(x, 1, NONE, 1, 3, 0, 7);
        due("undoable", x.told(10), 4);
        due("undo", x.undo(3), 1);
        walker(x, 0, 0, NONE, 0, 0, 0);
        due("seed", x.seed(0), 794471793);
        // On 2 he GOES not, though he did.
        x.go(0, 2);
        x.go(1, 2);
        x.seed(1293799192);
        x.drift(1);
        walker(x, 0, 0, NONE, 0, 1, 0);
        walker(x, 1, 2, NONE, 0, 1, 10);
    }

    private static void seeds() {
        NightStreet x = new NightStreet();
        due("seed at first", x.seed(2147483647), 0);
        due("seed", x.seed(-1), OUTSIDE);
        due("seed", x.seed(Integer.MIN_VALUE), OUTSIDE);
        due("seed", x.seed(5), 2147483647);
        due("street", Check.tell(x, "s1 0 1;h1;w0 1;"), 1);
        due("the seed stays", x.seed(2147483647), 5);
        x.drift(1);
        // (2147483647 times 1103515245 and 12345, left over by 2 to the 31)
        due("seed", x.seed(0), (2147483647L * 1103515245L + 12345L) % 2147483648L);
    }

    private static void apartAndMeets() {
        NightStreet x = Check.street(EVEN);
        due("apart", x.apart(0, 1), 30);
        due("apart", x.apart(1, 2), 20);
        due("apart itself", x.apart(1, 1), UNKNOWN);
        due("apart 3", x.apart(0, 3), UNKNOWN);
        due("apart -1", x.apart(-1, 0), UNKNOWN);
        due("meets itself", x.meets(1, 1), UNKNOWN);
        due("meets 3", x.meets(3, 0), UNKNOWN);
        due("meets -1", x.meets(0, -1), UNKNOWN);
        due("nobody goes", x.meets(0, 1), NONE);
        x.go(0, 2);
        due("walks to him", x.meets(0, 2), 2);
        due("walks to the end", x.meets(1, 0), 6);
        x.go(1, 0);
        due("halfway", x.meets(0, 1), 3);
        x.go(2, 2);
        due("0 passes not 2", x.meets(0, 2), 6);
        due("1 passes 2", x.meets(2, 1), 2);
        String before = Check.seen(x);
        x.meets(0, 1);
        CHECK.isTrue("tried changes nothing", before.equals(Check.seen(x)));
        x.minute(3);
        due("there", x.meets(0, 1), 0);
        due("apart 0", x.apart(0, 1), 0);
    }

    private static void meetsAtTheMost() {
        // Five GAPS of 60 yards at pace 1: 60 minutes each.
        NightStreet x = Check.street("s1 0 1;h60,60,60,60,60,1;w0 1;w5 1;w6 1;");
        x.go(0, 2);
        due("comes in 300", x.comes(0, 5), 300);
        due("does not come in 301", x.comes(0, 6), NONE);
        due("meets in 300", x.meets(0, 1), 300);
        due("does not meet in 301", x.meets(0, 2), NONE);
        due("takes 300", x.takes(0, 5, 1, 0), 300);
        due("takes 301", x.takes(0, 6, 1, 0), NONE);
        due("ropes for 300", x.ropes(0, 5, 1, 300), 0);
        due("ropes for 301", x.ropes(0, 6, 1, 300), 1);
        due("beat of 602", x.beat(1), NONE);
        due("doctor", x.doctor(1, 0), 3);
        due("doctor's time", x.doctor(1, 1), 180);
        x = Check.street("s1 0 1;h60,60,60,60,60;");
        due("beat of 600", x.beat(1), 600);
        x = Check.street("s1 0 1;h60,60,60,60,60,60,60,60;");
        due("beat of 480", x.beat(2), 480);
        due("a doctor at 240", x.doctor(1, 1), 240);
    }

    private static void longWays() {
        NightStreet x = Check.street("s60 40 1;h60,60,60,60;");
        due("first gap", x.takes(0, 1, 1, 0), 109);
        due("at the night's height", x.takes(0, 1, 1, 60), 61);
        due("yards at 60", x.howLong(60), 4 * 300);
        due("yards at 119", x.howLong(119), 4 * 64);
        // A leg of more than 300 MINUTES is fine, if both have 600 at most.
        due("beat of 340 and 260", Check.street("s60 35 1;h10,60,40;").beat(1), 600);
        due("beat of 284 and 316", Check.street("s30 18 1;h60,60,40,40,20;").beat(1), 600);
        due("beat of 338 and 263", Check.street("s60 34 1;h20,40,40;").beat(1), NONE);
        due("beat of 299 and 302", Check.street("s30 39 1;h60,60,40,20,60;").beat(1), NONE);
    }

    private static void takesAndSetOut() {
        NightStreet x = Check.street(SHORT);
        due("takes up", x.takes(0, 2, 3, 0), 8);
        due("takes down", x.takes(2, 0, 5, 0), 5);
        due("takes at 10", x.takes(0, 2, 3, 10), 8);
        due("takes at 119", x.takes(0, 1, 9, 119), 1);
        due("takes roped", x.takes(1, 0, 4, 0), 1);
        due("takes at 1", x.takes(1, 0, 4, 1), 2);
        due("same house", x.takes(1, 1, 99, 0), UNKNOWN);
        due("no house", x.takes(0, 3, 1, 0), UNKNOWN);
        due("no house", x.takes(-1, 0, 1, 0), UNKNOWN);
        due("pace 0", x.takes(0, 1, 0, 0), OUTSIDE);
        due("pace 41", x.takes(0, 1, 41, 0), OUTSIDE);
        due("minute -1", x.takes(0, 1, 1, -1), OUTSIDE);
        due("minute 120", x.takes(0, 1, 1, 120), OUTSIDE);
        x.minute(4);
        due("now is of no account", x.takes(0, 2, 3, 0), 8);
        x.rope(0, false);
        due("ropes as they lie", x.takes(0, 2, 3, 0), 9);
        // Pace 4 with a ROPE: 1 minute from 0, 10, 20; else 2.
        x.rope(0, true);
        due("set out first", x.setOut(0, 1, 4, 10, 0), 0);
        due("set out last", x.setOut(0, 1, 4, 10, 1), 8);
        due("set out how many", x.setOut(0, 1, 4, 10, 2), 9);
        due("by 11", x.setOut(0, 1, 4, 11, 1), 10);
        due("by 11: both", x.setOut(0, 1, 4, 11, 2), 11);
        due("by 1", x.setOut(0, 1, 4, 1, 1), 0);
        due("by 0", x.setOut(0, 1, 40, 0, 0), NONE);
        due("by 0", x.setOut(0, 1, 40, 0, 1), NONE);
        due("by 0", x.setOut(0, 1, 40, 0, 2), 0);
        due("by 119", x.setOut(2, 1, 40, 119, 2), 119);
        due("same house", x.setOut(1, 1, 0, 0, 0), UNKNOWN);
        due("no house", x.setOut(3, 1, 1, 0, 0), UNKNOWN);
        due("pace 41", x.setOut(0, 1, 41, 0, 0), OUTSIDE);
        due("pace 0", x.setOut(0, 1, 0, 0, 0), OUTSIDE);
        due("by 120", x.setOut(0, 1, 1, 120, 0), OUTSIDE);
        due("by -1", x.setOut(0, 1, 1, -1, 0), OUTSIDE);
        due("what 3", x.setOut(0, 1, 1, 0, 3), OUTSIDE);
        due("what -1", x.setOut(0, 1, 1, 0, -1), OUTSIDE);
    }

    private static void comes() {
        NightStreet x = Check.street(EVEN);
        due("stands there", x.comes(0, 0), 0);
        due("goes not", x.comes(0, 1), NONE);
        x.go(0, 2);
        due("next", x.comes(0, 1), 2);
        due("last", x.comes(0, 3), 6);
        due("stands there yet", x.comes(0, 0), 0);
        x.minute(1);
        due("has left", x.comes(0, 0), NONE);
        due("walker 3", x.comes(3, 0), UNKNOWN);
        due("house 4", x.comes(0, 4), UNKNOWN);
        due("house -1", x.comes(0, -1), UNKNOWN);
        due("minutes", x.told(6), 1);
    }

    private static void ropesNeeded() {
        NightStreet x = Check.street("s1 0 1;h10,20,20,10;");
        due("none", x.ropes(0, 4, 5, 12), 0);
        due("one of two like ones", x.ropes(0, 4, 5, 10), 2);
        due("the least that saves one", x.ropes(0, 4, 5, 11), 1);
        due("three saved: two ropes", x.ropes(0, 4, 5, 9), 3);
        due("four saved", x.ropes(0, 4, 5, 8), 6);
        due("all", x.ropes(4, 0, 5, 6), 15);
        due("too few", x.ropes(0, 4, 5, 5), NONE);
        due("no minutes", x.ropes(0, 1, 40, 0), NONE);
        due("one side alone", x.ropes(2, 4, 5, 4), 4);
        due("either would do", x.ropes(2, 4, 5, 5), 4);
        x.rope(1, true);
        due("what lies is not told again", x.ropes(0, 4, 5, 8), 4);
        due("it counts", x.ropes(0, 4, 5, 10), 0);
        due("same house", x.ropes(1, 1, 0, 0), UNKNOWN);
        due("no house", x.ropes(0, 5, 1, 0), UNKNOWN);
        due("pace 0", x.ropes(0, 1, 0, 1), OUTSIDE);
        due("n 301", x.ropes(0, 1, 1, 301), OUTSIDE);
        due("n -1", x.ropes(0, 1, 1, -1), OUTSIDE);
        // Setting out now: at minute 3 of a night that grows.
        x = Check.street("s30 10 1;h10;");
        due("at 0", x.ropes(0, 1, 5, 3), 0);
        x.minute(6);
        due("at 6", x.ropes(0, 1, 5, 3), 1);
    }

    private static void doctorAndBeat() {
        NightStreet x = Check.street("s1 0 1;h10,10,10;");
        due("the lesser of the middle", x.doctor(5, 0), 1);
        due("how much", x.doctor(5, 1), 4);
        x.rope(0, true);
        due("a rope below", x.doctor(5, 0), 2);
        x.rope(2, true);
        due("ropes both sides", x.doctor(5, 1), 3);
        due("beat", x.beat(5), 8);
        due("beat of 40", x.beat(40), 6);
        due("pace 0", x.doctor(0, 0), OUTSIDE);
        due("pace 41", x.doctor(41, 0), OUTSIDE);
        due("what 2", x.doctor(1, 2), OUTSIDE);
        due("what -1", x.doctor(1, -1), OUTSIDE);
        due("beat pace 0", x.beat(0), OUTSIDE);
        due("beat pace 41", x.beat(41), OUTSIDE);
        x = Check.street("s1 0 1;h7;");
        due("of two the least", x.doctor(7, 0), 0);
        x = Check.street("s1 0 1;h60,60,60,60,60,60,60,60;");
        x.rope(7, true);
        due("doctor", x.doctor(1, 0), 4);
        x = Check.street(SHORT);
        // Up 8 minutes at pace 3, to minute 8; back: 3, 6, 9, 12 (12 at minute 10: 1 more), then the ROPE: 6, 12.
        due("beat from now", x.beat(3), 8 + 5 + 2);
        x.minute(2);
        due("takes from 2 differs", x.takes(0, 2, 3, 2), 7);
    }

    private static void rentAndLamp() {
        NightStreet x = Check.street(SHORT);
        due("rent 0", x.rent(0), 0);
        due("rent 4", x.rent(4), 12);
        due("rent 10", x.rent(10), 3 * 7 + 5 * 3);
        due("rent 120", x.rent(120), 12 * 36);
        due("rent 121", x.rent(121), OUTSIDE);
        due("rent -1", x.rent(-1), OUTSIDE);
        x.minute(3);
        due("rent from 3", x.rent(2), 3 + 5);
        due("lamp", x.lamp(0, 1000), 1000000000);
        due("lamp", x.lamp(60, 0), 1000000000);
        due("lamp", x.lamp(1, 1000), 0);
        due("lamp", x.lamp(1, 500), 250000000);
        due("lamp cut each time", x.lamp(2, 999), 0);
        due("lamp", x.lamp(1, 999), 1000);
        due("lamp n 61", x.lamp(61, 0), OUTSIDE);
        due("lamp n -1", x.lamp(-1, 0), OUTSIDE);
        due("lamp q 1001", x.lamp(0, 1001), OUTSIDE);
        due("lamp q -1", x.lamp(0, -1), OUTSIDE);
        long odds = 1000000000L;
        for (int i = 0; i < 120; i++) {
            odds = odds * 993 / 1000;
        }
        due("lamp of 60", x.lamp(60, 7), odds);
    }

    private static void metAndFits() {
        NightStreet x = Check.street(SHORT);
        due("nothing met", x.fits(0), 10);
        due("nothing met", x.fits(1), 0);
        due("nothing met", x.fits(2), 9);
        due("look at", x.lookAt(), 0);
        due("all growths", x.growths(), (1 << 30) - 1);
        due("met", x.met(0, 2), 1);
        due("fits", x.fits(0), 3);
        due("first", x.fits(1), 4);
        due("last", x.fits(2), 6);
        due("none parts them", x.lookAt(), NONE);
        // 8 and G times 5 / 10 must come to 12 .. 15: 4 .. 7 yards at some minute.
        int set = 0;
        for (int g = 8; g < 30; g++) {
            boolean could = false;
            for (int m = 0; m <= 5; m++) {
                could |= g * m / 10 >= 4 && g * m / 10 <= 7;
            }
            set |= could ? 1 << g : 0;
        }
        due("growths", x.growths(), set);
        due("met", x.met(1, 2), 2);
        due("fits not", x.fits(0), 0);
        due("fits not", x.fits(1), NONE);
        due("fits not", x.fits(2), NONE);
        due("nothing to look at", x.lookAt(), NONE);
        due("gap 2", x.met(2, 1000), UNKNOWN);
        due("gap -1", x.met(-1, 0), UNKNOWN);
        due("1000", x.met(0, 1000), OUTSIDE);
        due("-1", x.met(0, -1), OUTSIDE);
        due("met", x.met(0, 0), 3);
        due("met", x.met(0, 999), 4);
        due("met", x.met(1, 3), 5);
        due("met", x.met(1, 3), 6);
        due("full", x.met(1, 3), FULL);
        due("outside ahead of full", x.met(1, 1000), OUTSIDE);
        due("told 8", x.told(8), 6);
        due("what 3", x.fits(3), OUTSIDE);
        due("what -1", x.fits(-1), OUTSIDE);
        due("tear", x.tear(), 6);
        due("told 8", x.told(8), 0);
        due("fits", x.fits(0), 10);
    }

    private static void lookAt() {
        // Yards: 4 and t, 5 and t, 30 and t (t 0 .. 4 .. 1); W 3: houses 0 0 1 1 1 / 0 1 1 1 2 / 9 9 9 10 10.
        NightStreet x = Check.street("s4 10 3;h4,5,30;");
        due("greatest parts 5, 6, 5: the least gap", x.lookAt(), 0);
        x.met(0, 0);
        due("0, 1, 7 by gap 1", x.lookAt(), 1);
        x.met(1, 1);
        due("1, 7: none", x.lookAt(), NONE);
        due("growths", x.growths() & 1024, 1024);
        due("two fit", x.fits(0), 2);
        x.tear();
        x.met(2, 9);
        // 0 1 2 6 7: gap 0 tells 3 and 2, gap 1 tells 1 and 4.
        due("gap 0", x.lookAt(), 0);
        x.tear();
        x.met(0, 1);
        // 2 3 4 5 6: gap 1 tells 4 and 1, gap 2 tells 3 (3 4 5) and 2 (2 6).
        due("gap 2", x.lookAt(), 2);
        // Only the minute 0 has no NIGHT HOUSE more, if G is 10 or more.
        x = Check.street("s1 40 1;h1;");
        x.met(0, 0);
        due("all growths, at minute 0", x.growths(), (1 << 30) - 1);
        due("one fits", x.fits(0), 1);
        due("one is not parted", x.lookAt(), NONE);
    }

    private static void bookAndTear() {
        NightStreet x = Check.street(EVEN);
        due("nothing wrong", x.judge(), NONE);
        due("write", x.write(0, 0), 1);
        due("write", x.write(1, 3), 2);
        due("nothing wrong", x.judge(), NONE);
        due("write", x.write(2, 0), 3);
        due("wrong", x.judge(), 2);
        x.go(1, 0);
        x.minute(1);
        due("in a gap", x.judge(), 1);
        x.undo(1);
        due("back again", x.judge(), 2);
        x.go(0, 2);
        x.minute(1);
        due("the first of three", x.judge(), 0);
        x.undo(2);
        due("walker 3", x.write(3, 0), UNKNOWN);
        due("walker -1", x.write(-1, 0), UNKNOWN);
        due("house 4", x.write(0, 4), UNKNOWN);
        due("house -1", x.write(0, -1), UNKNOWN);
        x.met(0, 0);
        for (int i = 4; i <= 20; i++) {
            due("write", x.write(0, 0), i);
        }
        due("full", x.write(0, 0), FULL);
        due("unknown ahead of full", x.write(0, 4), UNKNOWN);
        due("told 9", x.told(9), 20);
        due("tear", x.tear(), 21);
        due("told 8", x.told(8), 0);
        due("told 9", x.told(9), 0);
        due("judge", x.judge(), NONE);
        due("tear", x.tear(), 0);
        x.write(0, 0);
        x.met(0, 0);
        due("street", Check.tell(x, EVEN), 3);
        due("told 8", x.told(8), 0);
        due("told 9", x.told(9), 0);
    }

    private static void images() {
        NightStreet x = Check.street(SHORT);
        due("image 2", x.keep(2), UNKNOWN);
        due("image -1", x.keep(-1), UNKNOWN);
        due("back 2", x.goBack(2), UNKNOWN);
        due("back -1", x.goBack(-1), UNKNOWN);
        due("not kept", x.goBack(0), NOT);
        x.go(0, 2);
        x.minute(1);
        x.seed(9);
        x.rope(0, false);
        due("keep", x.keep(0), 1);
        due("nothing to be undone", x.told(10), 0);
        due("not kept", x.goBack(1), NOT);
        x.met(0, 1);
        x.write(0, 2);
        x.rope(1, true);
        x.minute(4);
        x.seed(4);
        due("keep", x.keep(1), 1);
        x.minute(1);
        due("back", x.goBack(0), 1);
        due("nothing to be undone", x.told(10), 0);
        due("undo", x.undo(1), NOT);
        due("minutes", x.told(6), 1);
        due("ropes", x.told(7), 0);
        due("met stays", x.told(8), 1);
        due("book stays", x.told(9), 1);
        walker(x, 0, NONE, 0, 6, 2, 6);
        due("seed", x.seed(1), 9);
        due("back", x.goBack(1), 1);
        due("minutes", x.told(6), 5);
        due("ropes", x.told(7), 2);
        due("seed", x.seed(1), 4);
        due("back", x.goBack(0), 1);
        x.minute(1);
        due("keep again", x.keep(0), 1);
        x.minute(1);
        due("back", x.goBack(0), 1);
        due("minutes", x.told(6), 2);
        due("street", Check.tell(x, SHORT), 2);
        due("images are gone", x.goBack(0), NOT);
        due("images are gone", x.goBack(1), NOT);
        due("minutes", x.told(6), 0);
        due("ropes", x.told(7), 1);
        x.minute(1);
        due("street", Check.tell(x, SHORT), 2);
        due("nothing to be undone", x.undo(1), NOT);
    }

    public static void main(String[] args) {
        newObject();
        streetWithoutHouses();
        toldAndGap();
        walkersWalk();
        goAndTurn();
        fartherThanTheGap();
        ropeAndUndo();
        minutes();
        drifting();
        seeds();
        apartAndMeets();
        meetsAtTheMost();
        longWays();
        takesAndSetOut();
        comes();
        ropesNeeded();
        doctorAndBeat();
        rentAndLamp();
        metAndFits();
        lookAt();
        bookAndTear();
        images();
        CHECK.end();
    }
}
