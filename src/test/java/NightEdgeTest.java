/** Section 2 of the document and promises 6 to 9, 13: how the night goes and how WALKERS walk in it, at the edges. */
public final class NightEdgeTest {
    private static final Check CHECK = new Check();
    private static final int NONE = Check.NONE, UNKNOWN = Check.UNKNOWN, OUTSIDE = Check.OUTSIDE, NOT = Check.NOT;
    private static final int DOWN = 0, STILL = 1, UP = 2;

    private static void due(String call, long got, long want) {
        CHECK.due(call, got, want);
    }

    private static void walker(NightStreet x, int w, int house, int in, int yards, int way, int where) {
        due("walker(" + w + ", 0)", x.walker(w, 0), house);
        due("walker(" + w + ", 1)", x.walker(w, 1), in);
        due("walker(" + w + ", 2)", x.walker(w, 2), yards);
        due("walker(" + w + ", 3)", x.walker(w, 3), way);
        due("walker(" + w + ", 5)", x.walker(w, 5), where);
    }

    private static void stands(NightStreet x, int w, int house, int way, int where) {
        walker(x, w, house, NONE, 0, way, where);
    }

    private static void isIn(NightStreet x, int w, int gap, int yards, int way, int where) {
        walker(x, w, NONE, gap, yards, way, where);
    }

    private static void yardsMinuteByMinute(String street, int... yards) {
        NightStreet x = Check.street(street);
        for (int t = 0; t < yards.length; t++) {
            due(street + " gap(0, 1) at " + t, x.gap(0, 1), yards[t]);
            due(street + " howLong(" + t + ")", x.howLong(t), yards[t]);
            due(street + " minute(1) at " + t, x.minute(1), t + 1);
        }
    }

    // ---- the night

    private static void leftOverByTheNight() {
        CHECK.sentence("the NIGHT has 2 P; t of it is what is left over by 2 P");
        yardsMinuteByMinute("s1 10 1;h5;", 5, 6, 5, 6, 5, 6, 5);
        yardsMinuteByMinute("s2 10 1;h5;", 5, 6, 7, 6, 5, 6, 7, 6, 5);
        yardsMinuteByMinute("s3 10 1;h5;", 5, 6, 7, 8, 7, 6, 5, 6, 7, 8, 7, 6, 5);
        NightStreet x = Check.street("s60 10 1;h5;");
        int[] minutes = {0, 1, 59, 60, 61, 119, 120};
        int[] yards = {5, 6, 64, 65, 64, 6, 5};
        for (int i = 0; i < minutes.length; i++) {
            due("howLong(" + minutes[i] + ")", x.howLong(minutes[i]), yards[i]);
        }
        x.minute(59);
        for (int night = 0; night < 4; night++) {
            due("a minute ahead of the height", x.gap(0, 1), 64);
            x.minute(1);
            due("the height", x.gap(0, 1), 65);
            x.minute(1);
            due("a minute behind the height", x.gap(0, 1), 64);
            x.minute(58);
            due("the last minute of the night", x.gap(0, 1), 6);
            x.minute(1);
            due("the first of the next", x.gap(0, 1), 5);
            x.minute(59);
        }
        due("MINUTES are not cut", x.told(6), 59 + 4 * 120);
    }

    private static void shortNightsInHowLong() {
        CHECK.sentence("t of it is what is left over by 2 P: LONG at minute t (0 .. 120)");
        for (int p = 1; p <= 60; p++) {
            NightStreet x = Check.street("s" + p + " 40 1;h1,2;");
            due("0", x.howLong(0), 3);
            due("P", x.howLong(p), 3 + 2 * (40 * p / 10));
            due("2 P less 1", x.howLong(2 * p - 1), 3 + 2 * 4);
            due("2 P", x.howLong(2 * p), 3);
            if (2 * p < 120) {
                due("2 P and 1", x.howLong(2 * p + 1), 3 + 2 * 4);
            }
        }
    }

    private static void growthIsCut() {
        CHECK.sentence("YARDS of a GAP at t: D and G times (t, or 2 P less t, the lesser) / 10; / cuts towards 0");
        yardsMinuteByMinute("s11 1 1;h7;", 7, 7, 7, 7, 7, 7, 7, 7, 7, 7, 8, 8, 8, 7, 7);
        yardsMinuteByMinute("s7 3 1;h7;", 7, 7, 7, 7, 8, 8, 8, 9, 8, 8, 8, 7, 7, 7, 7);
        yardsMinuteByMinute("s3 0 1;h60;", 60, 60, 60, 60, 60, 60, 60, 60);
        yardsMinuteByMinute("s3 40 1;h1;", 1, 5, 9, 13, 9, 5, 1, 5);
        due("the most that can be", Check.street("s60 40 1;h60,60,60,60,60,60,60,60;").howLong(60), 8 * 300);
    }

    private static void nightHouses() {
        CHECK.sentence("NIGHT HOUSES in it: YARDS / W, less 1, 0 at least");
        for (int yards = 1; yards <= 60; yards++) {
            int w = 10;
            int want = yards < 20 ? 0 : yards < 30 ? 1 : yards < 40 ? 2 : yards < 50 ? 3 : yards < 60 ? 4 : 5;
            due("of " + yards + " yards", Check.street("s1 0 " + w + ";h" + yards + ";").gap(0, 2), want);
        }
        due("1 of 50", Check.street("s1 0 50;h1;").gap(0, 2), 0);
        due("49 of 50", Check.street("s1 0 50;h49;").gap(0, 2), 0);
        due("50 of 50", Check.street("s1 0 50;h50;").gap(0, 2), 0);
        due("1 of 1", Check.street("s1 0 1;h1;").gap(0, 2), 0);
        due("2 of 1", Check.street("s1 0 1;h2;").gap(0, 2), 1);
        NightStreet x = Check.street("s60 40 1;h60;");
        x.minute(60);
        due("the most that can be", x.gap(0, 2), 299);
        // 19 by day, one more each minute: the first NIGHT HOUSE comes with minute 1 and is gone with 2 P.
        x = Check.street("s2 10 10;h19;");
        int[] houses = {0, 1, 1, 1, 0, 1};
        for (int t = 0; t < houses.length; t++) {
            due("at minute " + t, x.gap(0, 2), houses[t]);
            x.minute(1);
        }
    }

    private static void gapAndWalkerBounds() {
        CHECK.sentence("gap: what = 0 .. 3; walker: what = 0 .. 5. UNKNOWN, OUTSIDE.");
        NightStreet x = Check.street("s1 0 4;h8,9;w2 7;w1 40;r1;");
        int[] last = {9, 9, 1, 1};
        int[] first = {8, 8, 1, 0};
        for (int what = 0; what <= 3; what++) {
            due("gap(0, " + what + ")", x.gap(0, what), first[what]);
            due("gap(1, " + what + ")", x.gap(1, what), last[what]);
            due("gap(2, " + what + ")", x.gap(2, what), UNKNOWN);
            due("gap(-1, " + what + ")", x.gap(-1, what), UNKNOWN);
        }
        due("gap(0, -1)", x.gap(0, -1), OUTSIDE);
        due("gap(1, 4)", x.gap(1, 4), OUTSIDE);
        due("gap(2, 4)", x.gap(2, 4), UNKNOWN);
        int[] one = {2, NONE, 0, 1, 7, 17};
        int[] other = {1, NONE, 0, 1, 40, 8};
        for (int what = 0; what <= 5; what++) {
            due("walker(0, " + what + ")", x.walker(0, what), one[what]);
            due("walker(1, " + what + ")", x.walker(1, what), other[what]);
            due("walker(2, " + what + ")", x.walker(2, what), UNKNOWN);
            due("walker(-1, " + what + ")", x.walker(-1, what), UNKNOWN);
        }
        due("walker(0, -1)", x.walker(0, -1), OUTSIDE);
        due("walker(1, 6)", x.walker(1, 6), OUTSIDE);
        due("walker(2, 6)", x.walker(2, 6), UNKNOWN);
    }

    // ---- a MINUTE

    private static void arriving() {
        CHECK.sentence("if these are YARDS of it at t or more, he STANDS at its other HOUSE (no further in this MINUTE; he GOES on)");
        NightStreet x = Check.street("s1 0 1;h10,10;w0 9;w0 10;w0 11;w2 40;");
        x.go(0, UP);
        x.go(1, UP);
        x.go(2, UP);
        x.go(3, DOWN);
        x.minute(1);
        isIn(x, 0, 0, 9, UP, 9);
        stands(x, 1, 1, UP, 10);
        stands(x, 2, 1, UP, 10);
        stands(x, 3, 1, DOWN, 10);
        x.minute(1);
        stands(x, 0, 1, UP, 10);
        stands(x, 1, 2, UP, 20);
        stands(x, 2, 2, UP, 20);
        stands(x, 3, 0, DOWN, 0);
        CHECK.sentence("PACE 40 at most, YARDS 1 at least");
        x = Check.street("s1 0 1;h1,1;w0 40;w0 1;");
        x.go(0, UP);
        x.go(1, UP);
        x.minute(1);
        stands(x, 0, 1, UP, 1);
        stands(x, 1, 1, UP, 1);
    }

    private static void yardsAtTheMinutesNumber() {
        CHECK.sentence("A MINUTE (number t): YARDS of it at t");
        // 5 yards at 0, 6 at 1, 7 at 2.
        NightStreet x = Check.street("s10 10 1;h5,5;w0 5;w0 6;");
        x.go(0, UP);
        x.minute(1);
        stands(x, 0, 1, UP, 6);
        x.go(1, UP);
        x.minute(1);
        isIn(x, 0, 1, 5, UP, 7 + 5);
        stands(x, 1, 1, UP, 7);
        // At 2 P less 1 there are 6, at 2 P 5 again.
        x = Check.street("s10 10 1;h5;w0 5;w1 5;");
        x.minute(19);
        x.go(0, UP);
        x.minute(1);
        isIn(x, 0, 0, 5, UP, 5);
        x.go(1, DOWN);
        x.minute(1);
        stands(x, 0, 1, UP, 6);
        stands(x, 1, 0, DOWN, 0);
    }

    private static void twiceAlongARope() {
        CHECK.sentence("PACE yards further (twice that along a ROPE)");
        NightStreet x = Check.street("s1 0 1;h10,11;w0 5;w1 5;w2 5;r0;r1;");
        for (int w = 0; w < 3; w++) {
            x.go(w, w == 2 ? DOWN : UP);
        }
        x.minute(1);
        stands(x, 0, 1, UP, 10);
        isIn(x, 1, 1, 10, UP, 20);
        isIn(x, 2, 1, 10, DOWN, 11);
        x.rope(1, false);
        x.minute(1);
        isIn(x, 0, 1, 5, UP, 15);
        stands(x, 1, 2, UP, 21);
        x.rope(1, true);
        x.minute(1);
        stands(x, 0, 2, UP, 21);
    }

    private static void whereNoGapIs() {
        CHECK.sentence("where none is, he GOES not");
        NightStreet x = Check.street("s1 0 1;h10;w0 1;w1 1;");
        due("down from HOUSE 0", x.go(0, DOWN), 0);
        due("up from the last", x.go(1, UP), 10);
        stands(x, 0, 0, DOWN, 0);
        stands(x, 1, 1, UP, 10);
        x.minute(1);
        stands(x, 0, 0, STILL, 0);
        stands(x, 1, 1, STILL, 10);
        x.go(0, UP);
        x.go(1, DOWN);
        x.minute(10);
        stands(x, 0, 1, UP, 10);
        stands(x, 1, 0, DOWN, 0);
        x.minute(1);
        stands(x, 0, 1, STILL, 10);
        stands(x, 1, 0, STILL, 0);
        CHECK.sentence("who GOES not stays");
        x.minute(60);
        stands(x, 0, 1, STILL, 10);
    }

    // ---- go(), TURNED, WHERE

    private static void goBounds() {
        CHECK.sentence("A WALKER GOES up (2), down (0), not (1; IN a GAP that cannot be). UNKNOWN, OUTSIDE, NOT: IN a GAP.");
        NightStreet x = Check.street("s1 0 1;h10;w0 4;w1 4;");
        due("go(0, -1)", x.go(0, -1), OUTSIDE);
        due("go(0, 3)", x.go(0, 3), OUTSIDE);
        due("go(2, 3)", x.go(2, 3), UNKNOWN);
        due("go(-1, 1)", x.go(-1, 1), UNKNOWN);
        due("nothing to be undone", x.told(10), 0);
        due("go(1, 0)", x.go(1, DOWN), 10);
        due("go(1, 1) at a HOUSE", x.go(1, STILL), 10);
        stands(x, 1, 1, STILL, 10);
        due("go(0, 2)", x.go(0, UP), 0);
        x.minute(1);
        due("go(0, 1) IN a GAP", x.go(0, STILL), NOT);
        due("go(0, 3) IN a GAP", x.go(0, 3), OUTSIDE);
        due("go(2, 1)", x.go(2, STILL), UNKNOWN);
        due("refused ones are not kept", x.told(10), 4);
        isIn(x, 0, 0, 4, UP, 4);
        x.minute(2);
        due("go(0, 1) at a HOUSE again", x.go(0, STILL), 10);
        due("who GOES not may do so again", x.go(0, STILL), 10);
        due("each is kept", x.told(10), 8);
    }

    private static void turning() {
        CHECK.sentence("TURNED: yards are YARDS of it now less those; if it is the other way");
        NightStreet x = Check.street("s1 0 1;h10,10;w1 4;");
        x.go(0, UP);
        x.minute(1);
        due("the same way", x.go(0, UP), 14);
        isIn(x, 0, 1, 4, UP, 14);
        due("the other way", x.go(0, DOWN), 14);
        isIn(x, 0, 1, 6, DOWN, 14);
        due("the same way", x.go(0, DOWN), 14);
        isIn(x, 0, 1, 6, DOWN, 14);
        x.minute(1);
        stands(x, 0, 1, DOWN, 10);
        due("at a HOUSE nothing is TURNED", x.go(0, UP), 10);
        stands(x, 0, 1, UP, 10);
    }

    /** YARDS are 41 at 10, 37 at 11, 33 at 12; two MINUTES at pace 18 from 10 make 36. */
    private static NightStreet shrinking() {
        NightStreet x = Check.street("s10 40 1;h1;w0 18;w1 18;");
        x.minute(10);
        x.go(0, UP);
        x.go(1, DOWN);
        x.minute(2);
        return x;
    }

    private static void turnedBeyondTheEnd() {
        CHECK.sentence("TURNED: yards are YARDS of it now less those (0 at least)");
        NightStreet x = shrinking();
        due("turned at the upper end", x.go(0, DOWN), 33);
        isIn(x, 0, 0, 0, DOWN, 33);
        due("turned at the lower end", x.go(1, UP), 0);
        isIn(x, 1, 0, 0, UP, 0);
        due("turned again: the whole GAP", x.go(0, UP), 33);
        isIn(x, 0, 0, 33, UP, 33);
        x.minute(1);
        stands(x, 0, 1, UP, 29);
        isIn(x, 1, 0, 18, UP, 18);
        CHECK.sentence("TURNED: YARDS less those are 0 where both are alike");
        // 11 yards at 10, 10 at 11: after one MINUTE at pace 10 he is at the very end.
        x = Check.street("s10 10 1;h1;w0 10;");
        x.minute(10);
        x.go(0, UP);
        x.minute(1);
        isIn(x, 0, 0, 10, UP, 10);
        due("turned at the very end", x.go(0, DOWN), 10);
        isIn(x, 0, 0, 0, DOWN, 10);
    }

    private static void whereIsCut() {
        CHECK.sentence("WHERE a WALKER is in yards now: his yards (YARDS of it at most), from the lesser HOUSE");
        NightStreet x = shrinking();
        isIn(x, 0, 0, 36, UP, 33);
        isIn(x, 1, 0, 36, DOWN, 0);
        CHECK.sentence("APART: what two of these differ");
        due("apart(0, 1)", x.apart(0, 1), 33);
        due("apart(1, 0)", x.apart(1, 0), 33);
        due("one twice", x.apart(0, 0), UNKNOWN);
        due("apart(0, 2)", x.apart(0, 2), UNKNOWN);
        due("apart(2, 0)", x.apart(2, 0), UNKNOWN);
        due("apart(-1, 0)", x.apart(-1, 0), UNKNOWN);
        due("apart(0, -1)", x.apart(0, -1), UNKNOWN);
        x = Check.street("s1 10 1;h3,4,5;w3 1;w0 1;w3 2;");
        due("the same place", x.apart(0, 2), 0);
        due("the whole street", x.apart(0, 1), 12);
        x.minute(1);
        due("it has grown", x.apart(0, 1), 15);
        due("the upper end", x.walker(0, 5), 15);
        due("the lower end", x.walker(1, 5), 0);
    }

    private static void ropeAnswers() {
        CHECK.sentence("A ROPE lies along a GAP from now on (is), or not: 1 one lay there, 0 not. UNKNOWN.");
        NightStreet x = Check.street("s1 0 1;h1,1,1,1,1,1,1,1;");
        for (int k = 0; k <= 7; k++) {
            due("rope(" + k + ", false) where none lies", x.rope(k, false), 0);
            due("rope(" + k + ", true)", x.rope(k, true), 0);
            due("rope(" + k + ", true) again", x.rope(k, true), 1);
            due("told(7)", x.told(7), (2 << k) - 1);
        }
        due("rope(8, true)", x.rope(8, true), UNKNOWN);
        due("rope(-1, false)", x.rope(-1, false), UNKNOWN);
        due("rope(32, false)", x.rope(32, false), UNKNOWN);
        due("told(7)", x.told(7), 255);
        due("told(10)", x.told(10), 24);
        due("rope(7, false)", x.rope(7, false), 1);
        due("rope(0, false)", x.rope(0, false), 1);
        due("told(7)", x.told(7), 126);
        due("gap(7, 3)", x.gap(7, 3), 0);
        due("gap(6, 3)", x.gap(6, 3), 1);
        x = Check.street("s1 0 1;h1;");
        due("rope(1, true)", x.rope(1, true), UNKNOWN);
        due("told(7)", x.told(7), 0);
    }

    public static void main(String[] args) {
        leftOverByTheNight();
        shortNightsInHowLong();
        growthIsCut();
        nightHouses();
        gapAndWalkerBounds();
        arriving();
        yardsAtTheMinutesNumber();
        twiceAlongARope();
        whereNoGapIs();
        goBounds();
        turning();
        turnedBeyondTheEnd();
        whereIsCut();
        ropeAnswers();
        CHECK.end();
    }
}
