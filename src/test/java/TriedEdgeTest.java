/** Section 3 of the document, what is tried, and promises 14 to 23, at the edges. */
public final class TriedEdgeTest {
    private static final Check CHECK = new Check();
    private static final int NONE = Check.NONE, UNKNOWN = Check.UNKNOWN, OUTSIDE = Check.OUTSIDE, NOT = Check.NOT;
    private static final int DOWN = 0, UP = 2;
    private static final int BILLION = 1000000000;
    /** Sixty MINUTES a GAP at PACE 1, one for the last: 300 to HOUSE 5, 301 to HOUSE 6. */
    private static final String SIXTIES = "s1 0 1;h60,60,60,60,60,1;w0 1;w5 1;w6 1;w0 1;";

    private static void due(String call, long got, long want) {
        CHECK.due(call, got, want);
    }

    // ---- LONG

    private static void howLong() {
        CHECK.sentence("LONG at minute t (0 .. 120): YARDS of all GAPS. OUTSIDE, NOT: no STREET.");
        NightStreet x = Check.street("s60 10 1;h7,8;");
        due("howLong(-1)", x.howLong(-1), OUTSIDE);
        due("howLong(0)", x.howLong(0), 15);
        due("howLong(120)", x.howLong(120), 15);
        due("howLong(119)", x.howLong(119), 17);
        due("howLong(121)", x.howLong(121), OUTSIDE);
        x.minute(5);
        due("it is minute t, not now", x.howLong(0), 15);
        due("no GAPS", Check.street("s60 10 1;").howLong(60), 0);
        x = new NightStreet();
        due("howLong(0) without a STREET", x.howLong(0), NOT);
        due("howLong(120) without a STREET", x.howLong(120), NOT);
        due("howLong(121) without a STREET", x.howLong(121), OUTSIDE);
        due("howLong(-1) without a STREET", x.howLong(-1), OUTSIDE);
    }

    // ---- TAKES

    private static void takesBounds() {
        CHECK.sentence("TAKES from HOUSE a to HOUSE b at PACE v (1 .. 40), setting out at minute t (0 .. 119). UNKNOWN, OUTSIDE.");
        NightStreet x = Check.street("s1 0 1;h40,40;");
        due("v 1", x.takes(0, 1, 1, 0), 40);
        due("v 39", x.takes(0, 1, 39, 0), 2);
        due("v 40", x.takes(0, 1, 40, 0), 1);
        due("v 0", x.takes(0, 1, 0, 0), OUTSIDE);
        due("v 41", x.takes(0, 1, 41, 0), OUTSIDE);
        due("t 119", x.takes(0, 2, 40, 119), 2);
        due("t 120", x.takes(0, 2, 40, 120), OUTSIDE);
        due("t -1", x.takes(0, 2, 40, -1), OUTSIDE);
        due("from the last to the first", x.takes(2, 0, 40, 0), 2);
        due("a 3", x.takes(3, 0, 40, 0), UNKNOWN);
        due("b 3", x.takes(0, 3, 40, 0), UNKNOWN);
        due("a -1", x.takes(-1, 0, 40, 0), UNKNOWN);
        due("b -1", x.takes(0, -1, 40, 0), UNKNOWN);
        due("one twice", x.takes(2, 2, 40, 0), UNKNOWN);
        due("UNKNOWN ahead of OUTSIDE", x.takes(2, 2, 41, 120), UNKNOWN);
        due("without HOUSES", Check.street("s1 0 1;").takes(0, 1, 1, 0), UNKNOWN);
    }

    private static void takesAtMost() {
        CHECK.sentence("how many MINUTES (300 at most); NONE");
        NightStreet x = Check.street(SIXTIES);
        due("300 up", x.takes(0, 5, 1, 0), 300);
        due("301 up", x.takes(0, 6, 1, 0), NONE);
        due("301 down", x.takes(6, 0, 1, 0), NONE);
        due("241 down", x.takes(6, 1, 1, 0), 241);
        x.rope(5, true);
        due("a ROPE that saves nothing", x.takes(0, 6, 1, 0), NONE);
        x.rope(4, true);
        due("one that saves thirty", x.takes(0, 6, 1, 0), 271);
    }

    private static void takesOverTheNightsEnd() {
        CHECK.sentence("setting out at minute t (0 .. 119, of a NIGHT that goes on)");
        // 5 yards at 120, 6 at 119 and 121, 7 at 118 and 122.
        NightStreet x = Check.street("s60 10 1;h5,5;");
        due("one minute at 0", x.takes(0, 1, 5, 0), 1);
        due("not at 119", x.takes(0, 1, 5, 119), 2);
        due("6 are enough at 119", x.takes(0, 1, 6, 119), 1);
        due("6 twice: at 119, 120", x.takes(0, 2, 6, 119), 2);
        due("6 from 118: there at 119 (12), then at 120 (6)", x.takes(0, 2, 6, 118), 3);
        // A night of two minutes goes on sixty times and more.
        x = Check.street("s1 10 1;h5;");
        due("at 118", x.takes(0, 1, 5, 118), 1);
        due("at 119", x.takes(0, 1, 5, 119), 2);
        x.minute(1);
        due("it is minute t, not now", x.takes(0, 1, 5, 0), 1);
    }

    // ---- SET OUT

    private static void setOut(NightStreet x, int b, int v, int u, int first, int last, int count) {
        due("setOut to " + b + " at " + v + " by " + u + ": first", x.setOut(0, b, v, u, 0), first);
        due("setOut to " + b + " at " + v + " by " + u + ": last", x.setOut(0, b, v, u, 1), last);
        due("setOut to " + b + " at " + v + " by " + u + ": how many", x.setOut(0, b, v, u, 2), count);
    }

    private static void setOutInTime() {
        CHECK.sentence("the minutes t of 0 to u from which t and TAKES are u or less: the first; the last; how many; NONE");
        NightStreet x = Check.street("s1 0 1;h10,20;");
        setOut(x, 1, 5, 0, NONE, NONE, 0);
        setOut(x, 1, 5, 1, NONE, NONE, 0);
        setOut(x, 1, 5, 2, 0, 0, 1);
        setOut(x, 1, 5, 3, 0, 1, 2);
        setOut(x, 1, 5, 119, 0, 117, 118);
        setOut(x, 1, 40, 0, NONE, NONE, 0);
        setOut(x, 1, 40, 1, 0, 0, 1);
        setOut(x, 1, 40, 119, 0, 118, 119);
        setOut(x, 2, 1, 29, NONE, NONE, 0);
        setOut(x, 2, 1, 30, 0, 0, 1);
        // From 0 one MINUTE; 1 .. 5 come at 18, 6 .. 10 at 19, 11 .. 15 at 20, 16 .. 20 at 21, 21 .. 25 at 38.
        x = Check.street("s10 40 1;h1;");
        setOut(x, 1, 1, 17, 0, 0, 1);
        setOut(x, 1, 1, 18, 0, 5, 6);
        setOut(x, 1, 1, 19, 0, 10, 11);
        setOut(x, 1, 1, 20, 0, 15, 16);
        setOut(x, 1, 1, 21, 0, 20, 21);
        setOut(x, 1, 1, 37, 0, 20, 21);
        setOut(x, 1, 1, 38, 0, 25, 26);
        setOut(Check.street(SIXTIES), 2, 1, 119, NONE, NONE, 0);
        setOut(Check.street(SIXTIES), 6, 1, 119, NONE, NONE, 0);
    }

    private static void setOutBounds() {
        CHECK.sentence("SET OUT: PACE v, by minute u (0 .. 119): what = 0, 1, 2. UNKNOWN, OUTSIDE.");
        NightStreet x = Check.street("s1 0 1;h10,20;");
        due("u -1", x.setOut(0, 1, 1, -1, 0), OUTSIDE);
        due("u 120", x.setOut(0, 1, 1, 120, 0), OUTSIDE);
        due("v 0", x.setOut(0, 1, 0, 119, 2), OUTSIDE);
        due("v 41", x.setOut(0, 1, 41, 119, 2), OUTSIDE);
        due("what -1", x.setOut(0, 1, 1, 119, -1), OUTSIDE);
        due("what 3", x.setOut(0, 1, 1, 119, 3), OUTSIDE);
        due("a 3", x.setOut(3, 1, 0, 0, 0), UNKNOWN);
        due("b 3", x.setOut(0, 3, 0, 0, 0), UNKNOWN);
        due("a -1", x.setOut(-1, 1, 0, 0, 0), UNKNOWN);
        due("b -1", x.setOut(0, -1, 0, 0, 0), UNKNOWN);
        due("one twice", x.setOut(1, 1, 0, 120, 3), UNKNOWN);
        due("from the last to the first", x.setOut(2, 0, 40, 119, 2), 118);
    }

    // ---- COMES

    private static void comes() {
        CHECK.sentence("COMES: how many MINUTES (0 .. 300) till a WALKER STANDS at a HOUSE, as all GO now; NONE. UNKNOWN.");
        NightStreet x = Check.street(SIXTIES);
        due("STANDS there, GOES not", x.comes(0, 0), 0);
        due("GOES not", x.comes(0, 1), NONE);
        x.go(0, UP);
        due("STANDS there still", x.comes(0, 0), 0);
        due("60", x.comes(0, 1), 60);
        due("300", x.comes(0, 5), 300);
        due("301", x.comes(0, 6), NONE);
        x.go(1, DOWN);
        due("down 300", x.comes(1, 0), 300);
        due("the other way", x.comes(1, 6), NONE);
        x.go(2, DOWN);
        due("down 301", x.comes(2, 0), NONE);
        x.minute(1);
        due("he has left it", x.comes(0, 0), NONE);
        due("301 less 1", x.comes(0, 6), 300);
        due("299", x.comes(0, 5), 299);
        due("h 7", x.comes(0, 7), UNKNOWN);
        due("h -1", x.comes(0, -1), UNKNOWN);
        due("w 4", x.comes(4, 0), UNKNOWN);
        due("w -1", x.comes(-1, 0), UNKNOWN);
        due("nothing changes by it", x.told(6), 1);
        x = Check.street("s1 0 1;h5;w1 5;w0 5;");
        x.go(0, UP);
        due("he GOES where no GAP is", x.comes(0, 0), NONE);
        due("STANDS there", x.comes(0, 1), 0);
        x.go(1, UP);
        due("in one MINUTE", x.comes(1, 1), 1);
    }

    private static void comesByRopesNow() {
        CHECK.sentence("COMES: as all GO now, along ROPES as they lie, over the NIGHT's end");
        NightStreet x = Check.street("s5 10 1;h4;w0 5;");
        x.minute(9);
        x.go(0, UP);
        due("5 yards at 9", x.comes(0, 1), 1);
        x.undo(2);
        x.go(0, UP);
        due("6 yards at 8", x.comes(0, 1), 2);
        x.rope(0, true);
        due("along a ROPE", x.comes(0, 1), 1);
    }

    // ---- MEETS

    private static void meets() {
        CHECK.sentence("MEETS: in how many (0 .. 300) two WALKERS are 0 APART; NONE. UNKNOWN.");
        NightStreet x = Check.street(SIXTIES);
        due("at one HOUSE", x.meets(0, 3), 0);
        due("nobody GOES", x.meets(0, 1), NONE);
        x.go(0, UP);
        due("at one HOUSE yet", x.meets(3, 0), 0);
        due("300", x.meets(0, 1), 300);
        due("300, the other first", x.meets(1, 0), 300);
        due("301", x.meets(0, 2), NONE);
        due("301, the other first", x.meets(2, 0), NONE);
        x.minute(1);
        due("no more", x.meets(0, 3), NONE);
        due("301 less 1", x.meets(0, 2), 300);
        due("one twice", x.meets(1, 1), UNKNOWN);
        due("w 4", x.meets(4, 0), UNKNOWN);
        due("z 4", x.meets(0, 4), UNKNOWN);
        due("w -1", x.meets(-1, 0), UNKNOWN);
        due("z -1", x.meets(0, -1), UNKNOWN);
        x.go(0, DOWN);
        x.go(1, UP);
        due("away from one another", x.meets(0, 1), NONE);
    }

    private static void passing() {
        CHECK.sentence("MEETS: or have passed one another since");
        NightStreet x = Check.street("s1 0 1;h1;w0 40;w1 40;");
        x.go(0, UP);
        x.go(1, DOWN);
        due("they change places", x.meets(0, 1), 1);
        due("they change places", x.meets(1, 0), 1);
        x = Check.street("s1 0 1;h9,9,9;w0 4;w1 1;w3 4;");
        x.go(0, UP);
        x.go(1, UP);
        // 4 8 9 13 17 18 against 10 11 12 13: he is reached in the fourth MINUTE.
        due("reached", x.meets(0, 1), 4);
        x.go(2, DOWN);
        // 23 19 18 14 10 9 against 10 11 12 13 14: 14 and 13, then 10 and 14.
        due("passed", x.meets(1, 2), 5);
        due("passed, the other first", x.meets(2, 1), 5);
        // 4 8 9 13 17 against 23 19 18 14 10.
        due("passed within a GAP", x.meets(0, 2), 5);
        x.minute(5);
        CHECK.isTrue("passed, so they are not 0 APART", x.apart(1, 2) > 0);
        due("since now they pass no more", x.meets(1, 2), NONE);
    }

    // ---- ROPES needed

    private static void ropesInTime() {
        CHECK.sentence("ROPES needed: so that it TAKES n MINUTES at most (0 .. 300): the fewest ROPES more; the SET; NONE");
        NightStreet x = Check.street(SIXTIES);
        due("n 300 is enough", x.ropes(0, 5, 1, 300), 0);
        due("n 299", x.ropes(0, 5, 1, 299), 1);
        due("n 270", x.ropes(0, 5, 1, 270), 1);
        due("n 269", x.ropes(0, 5, 1, 269), 3);
        due("n 150: all five", x.ropes(0, 5, 1, 150), 31);
        due("n 149", x.ropes(0, 5, 1, 149), NONE);
        due("n 1", x.ropes(5, 6, 1, 1), 0);
        due("n 0", x.ropes(5, 6, 40, 0), NONE);
        due("301 without: n 300", x.ropes(0, 6, 1, 300), 1);
        due("down", x.ropes(6, 0, 1, 300), 1);
        due("GAPS off the way are of no use", x.ropes(2, 4, 1, 90), 4);
        due("GAPS off the way are of no use", x.ropes(4, 2, 1, 60), 12);
        x = Check.street("s1 0 1;h1,60,60,60,60,60,60,60;");
        due("the last GAP", x.ropes(7, 8, 2, 15), 128);
        due("eight at most", x.ropes(0, 8, 1, 211), 254);
        due("the first saves nothing", x.ropes(0, 8, 1, 210), NONE);
    }

    private static void ropesOfLikeOnes() {
        CHECK.sentence("the fewest ROPES more; of like ones the least SET");
        NightStreet x = Check.street("s1 0 1;h10,20,20,10;");
        due("any one would do", x.ropes(0, 4, 5, 11), 1);
        due("one of two would do", x.ropes(0, 4, 5, 10), 2);
        due("two: 0 and 1", x.ropes(0, 4, 5, 9), 3);
        due("two: 1 and 2", x.ropes(0, 4, 5, 8), 6);
        due("three", x.ropes(0, 4, 5, 7), 7);
        due("all", x.ropes(0, 4, 5, 6), 15);
        due("more than all", x.ropes(0, 4, 5, 5), NONE);
        // The SET 3 would do too and is less, but it has two ROPES.
        due("fewer ahead of less", Check.street("s1 0 1;h10,10,20;").ropes(0, 3, 5, 6), 4);
        CHECK.sentence("ROPES more: what lies is there already");
        x.rope(1, true);
        due("enough lies", x.ropes(0, 4, 5, 10), 0);
        due("one more", x.ropes(0, 4, 5, 9), 1);
        due("one more", x.ropes(0, 4, 5, 8), 4);
        x.rope(0, true);
        x.rope(2, true);
        x.rope(3, true);
        due("all lie: enough", x.ropes(0, 4, 5, 6), 0);
        due("all lie: not enough", x.ropes(0, 4, 5, 5), NONE);
        due("nothing changes by it", x.told(7), 15);
    }

    private static void ropesBounds() {
        CHECK.sentence("ROPES needed for a, b, PACE v, setting out now (n 0 .. 300). UNKNOWN, OUTSIDE.");
        NightStreet x = Check.street("s60 10 1;h10,10;");
        due("n -1", x.ropes(0, 1, 1, -1), OUTSIDE);
        due("n 301", x.ropes(0, 1, 1, 301), OUTSIDE);
        due("v 0", x.ropes(0, 1, 0, 300), OUTSIDE);
        due("v 41", x.ropes(0, 1, 41, 300), OUTSIDE);
        due("v 40", x.ropes(0, 1, 40, 1), 0);
        due("a 3", x.ropes(3, 1, 1, 301), UNKNOWN);
        due("b 3", x.ropes(1, 3, 1, 301), UNKNOWN);
        due("a -1", x.ropes(-1, 1, 1, 301), UNKNOWN);
        due("b -1", x.ropes(1, -1, 1, 301), UNKNOWN);
        due("one twice", x.ropes(2, 2, 1, 301), UNKNOWN);
        due("10 yards now", x.ropes(0, 1, 10, 1), 0);
        x.minute(1);
        due("11 yards now", x.ropes(0, 1, 10, 1), 1);
        x.minute(60);
        x.minute(59);
        due("10 yards again at 2 P", x.ropes(0, 1, 10, 1), 0);
    }

    // ---- DOCTOR, BEAT

    private static void doctor() {
        CHECK.sentence("DOCTOR: the greatest TAKES to another one is least; of like ones the least; how much");
        NightStreet x = Check.street("s1 0 1;h10;");
        due("of two HOUSES", x.doctor(5, 0), 0);
        due("how much", x.doctor(5, 1), 2);
        due("v 40", x.doctor(40, 1), 1);
        due("v 1", x.doctor(1, 1), 10);
        x = Check.street("s1 0 1;h10,10,10,10,10,10,10,10;");
        due("the middle of nine", x.doctor(10, 0), 4);
        due("how much", x.doctor(10, 1), 4);
        x = Check.street("s1 0 1;h10,10,10,10,10,10,10;");
        due("the lesser of the middle of eight", x.doctor(10, 0), 3);
        due("how much", x.doctor(10, 1), 4);
        x = Check.street("s1 0 1;h10,10,60;");
        due("near the long GAP", x.doctor(10, 0), 2);
        x = Check.street("s1 0 1;h1,1,1,60;");
        due("the last HOUSE", x.doctor(1, 0), 3);
        x = Check.street("s1 0 1;h60,1,1,1;");
        due("HOUSE 1", x.doctor(1, 0), 1);
    }

    private static void doctorAtMost() {
        CHECK.sentence("DOCTOR: TAKES (300 at most); NONE. OUTSIDE.");
        // From HOUSE 4 it TAKES 300 at most; from 5 332, from 3 360, from others more.
        NightStreet x = Check.street("s60 4 1;h20,60,60,60,60,60,60,60;");
        due("300: the HOUSE", x.doctor(1, 0), 4);
        due("300: how much", x.doctor(1, 1), 300);
        // From HOUSE 3 it TAKES 301, from others more.
        x = Check.street("s58 10 1;h23,60,36,48,30,60,48;");
        due("301: the HOUSE", x.doctor(1, 0), NONE);
        due("301: how much", x.doctor(1, 1), NONE);
        due("v 0", x.doctor(0, 0), OUTSIDE);
        due("v 41", x.doctor(41, 0), OUTSIDE);
        due("what -1", x.doctor(1, -1), OUTSIDE);
        due("what 2", x.doctor(1, 2), OUTSIDE);
        x = Check.street("s1 0 1;");
        due("without HOUSES", x.doctor(1, 0), NONE);
        due("without HOUSES", x.doctor(1, 1), NONE);
        due("without HOUSES, v 41", x.doctor(41, 1), OUTSIDE);
        x = new NightStreet();
        due("without a STREET", x.doctor(40, 0), NONE);
        due("without a STREET", x.doctor(40, 1), NONE);
        due("without a STREET, what 2", x.doctor(40, 2), OUTSIDE);
    }

    private static void doctorNow() {
        CHECK.sentence("DOCTOR: at PACE v, setting out now");
        NightStreet x = Check.street("s60 10 1;h10,9;r0;");
        due("10 and 9 yards now", x.doctor(10, 1), 1);
        x.minute(2);
        due("12 and 11 yards now", x.doctor(10, 1), 2);
        x.minute(60);
        x.minute(58);
        due("10 and 9 yards at 2 P", x.doctor(10, 1), 1);
    }

    private static void beat() {
        CHECK.sentence("BEAT at PACE v from HOUSE 0 now to the last one and back: how many MINUTES (600 at most), no rest; NONE");
        due("600", Check.street("s1 0 1;h60,60,60,60,60;").beat(1), 600);
        due("602", Check.street(SIXTIES).beat(1), NONE);
        due("340 and 260", Check.street("s60 35 1;h10,60,40;").beat(1), 600);
        due("338 and 263", Check.street("s60 34 1;h20,40,40;").beat(1), NONE);
        due("299 and 302", Check.street("s30 39 1;h60,60,40,20,60;").beat(1), NONE);
        due("947 there alone", Check.street("s60 40 1;h60,60,60,60,60,60,60,60;").beat(1), NONE);
        NightStreet x = Check.street("s1 0 1;h40;");
        due("v 40", x.beat(40), 2);
        due("v 1", x.beat(1), 80);
        due("v 0", x.beat(0), OUTSIDE);
        due("v 41", x.beat(41), OUTSIDE);
        // 5 yards at 0, 6 at 1, 7 at 2: one MINUTE there, no rest, then 5 of 6 and 10 of 7 yards.
        x = Check.street("s60 10 1;h5;");
        due("no rest", x.beat(5), 3);
        x.minute(60);
        x.minute(59);
        // 6 yards at 119, 5 at 120: two MINUTES there; 6 at 121, 7 at 122: two back.
        due("now, over the NIGHT's end", x.beat(5), 4);
        x.minute(1);
        due("now, at 2 P", x.beat(5), 3);
        CHECK.sentence("BEAT: OUTSIDE, NOT: no HOUSES.");
        x = Check.street("s1 0 1;");
        due("no HOUSES", x.beat(1), NOT);
        due("no HOUSES, v 0", x.beat(0), OUTSIDE);
        due("no HOUSES, v 41", x.beat(41), OUTSIDE);
        due("no STREET", new NightStreet().beat(40), NOT);
    }

    // ---- RENT, LAMP

    private static void rent() {
        CHECK.sentence("RENT of n MINUTES (0 .. 120) from now: NIGHT HOUSES of all GAPS of each MINUTE. OUTSIDE, NOT: no STREET.");
        // NIGHT HOUSES of both GAPS at 0, 1, 2, 3: 0, 2, 4, 2.
        NightStreet x = Check.street("s2 10 1;h1,1;");
        int[] sums = {0, 0, 2, 6, 8, 8, 10, 14, 16};
        for (int n = 0; n < sums.length; n++) {
            due("rent(" + n + ")", x.rent(n), sums[n]);
        }
        due("rent(120)", x.rent(120), 30 * 8);
        due("rent(119)", x.rent(119), 30 * 8 - 2);
        due("rent(121)", x.rent(121), OUTSIDE);
        due("rent(-1)", x.rent(-1), OUTSIDE);
        x.minute(3);
        due("rent(1) at 2 P less 1", x.rent(1), 2);
        due("rent(2) over the NIGHT's end", x.rent(2), 2);
        due("rent(3) over the NIGHT's end", x.rent(3), 4);
        due("rent(0) now", x.rent(0), 0);
        due("the most that can be", Check.street("s60 40 1;h60,60,60,60,60,60,60,60;").rent(120), 8 * (120 * 59 + 240 * 60));
        due("no GAPS", Check.street("s1 0 1;").rent(120), 0);
        x = new NightStreet();
        due("no STREET, rent(0)", x.rent(0), NOT);
        due("no STREET, rent(120)", x.rent(120), NOT);
        due("no STREET, rent(121)", x.rent(121), OUTSIDE);
        due("no STREET, rent(-1)", x.rent(-1), OUTSIDE);
    }

    private static void lamp() {
        CHECK.sentence("LAMP: in n MINUTES (0 .. 60), each by q of a thousand (0 .. 1000). OUTSIDE.");
        NightStreet x = Check.street("s1 0 1;h1,1;");
        due("n 0", x.lamp(0, 1000), BILLION);
        due("q 0", x.lamp(60, 0), BILLION);
        due("q 1000", x.lamp(1, 1000), 0);
        due("n 60, q 1000", x.lamp(60, 1000), 0);
        due("n -1", x.lamp(-1, 0), OUTSIDE);
        due("n 61", x.lamp(61, 0), OUTSIDE);
        due("q -1", x.lamp(0, -1), OUTSIDE);
        due("q 1001", x.lamp(0, 1001), OUTSIDE);
        due("each GAP once a MINUTE", x.lamp(1, 500), BILLION / 4);
        due("each GAP once a MINUTE", x.lamp(2, 500), BILLION / 16);
        due("no GAPS", Check.street("s1 0 1;").lamp(60, 1000), BILLION);
        x = new NightStreet();
        due("no STREET", x.lamp(60, 1000), BILLION);
        due("no STREET, n 61", x.lamp(61, 1000), OUTSIDE);
        due("no STREET, q 1001", x.lamp(60, 1001), OUTSIDE);
    }

    private static void lampIsCut() {
        CHECK.sentence("a BILLION times (1000 less q) / 1000 for each and MINUTE (cut)");
        due("down to 1", Check.street("s1 0 1;h1,1,1;").lamp(1, 999), 1);
        due("cut to 0", Check.street("s1 0 1;h1,1,1,1;").lamp(1, 999), 0);
        // 1000000000, 3000000, 9000, 27, 0.081
        due("27", Check.street("s1 0 1;h1;").lamp(3, 997), 27);
        due("0", Check.street("s1 0 1;h1;").lamp(4, 997), 0);
        // 123000000, 15129000, 1860867, 228886 (.641), 28152 (.978); cut once at the end it were 28153.
        due("cut each time", Check.street("s1 0 1;h1;").lamp(5, 877), 28152);
        // Cut once at the end it were 618634802.
        due("480 times", Check.street("s1 0 1;h1,1,1,1,1,1,1,1;").lamp(60, 1), 618634618);
    }

    public static void main(String[] args) {
        howLong();
        takesBounds();
        takesAtMost();
        takesOverTheNightsEnd();
        setOutInTime();
        setOutBounds();
        comes();
        comesByRopesNow();
        meets();
        passing();
        ropesInTime();
        ropesOfLikeOnes();
        ropesBounds();
        doctor();
        doctorAtMost();
        doctorNow();
        beat();
        rent();
        lamp();
        lampIsCut();
        CHECK.end();
    }
}
