/** MINUTES by number and BY DRAWS, what is UNDONE, IMAGES, THE SEED, and promises 10 to 12, 31 to 33, at the edges. */
public final class PastEdgeTest {
    private static final Check CHECK = new Check();
    private static final int NONE = Check.NONE, UNKNOWN = Check.UNKNOWN, OUTSIDE = Check.OUTSIDE, NOT = Check.NOT, FULL = Check.FULL;
    private static final int DOWN = 0, STILL = 1, UP = 2;
    private static final String STREET = "s5 10 2;h9,14;w0 2;w2 3;r1;";
    /** From each of these THE SEED comes to a DRAW of 4 that is its place here: 0 up, 1 down, 2 not, 3 as he did. */
    private static final int[] SEED_FOR = {0, 654583775, 1449466924, 229283573};

    private static void due(String call, long got, long want) {
        CHECK.due(call, got, want);
    }

    private static int seedOf(NightStreet x) {
        int seed = x.seed(0);
        x.seed(seed);
        return seed;
    }

    // ---- minute(), drift()

    private static void minuteBounds() {
        CHECK.sentence("n MINUTES (1 .. 60): MINUTES. OUTSIDE, NOT: no STREET");
        NightStreet x = Check.street(STREET);
        int[] outside = {0, -1, 61, 62, Integer.MIN_VALUE, Integer.MAX_VALUE};
        for (int n : outside) {
            due("minute(" + n + ")", x.minute(n), OUTSIDE);
            due("drift(" + n + ")", x.drift(n), OUTSIDE);
        }
        due("nothing has changed", x.told(6), 0);
        due("nothing to be undone", x.told(10), 0);
        due("no DRAWS", seedOf(x), 0);
        due("minute(1)", x.minute(1), 1);
        due("drift(1)", x.drift(1), 2);
        due("minute(60)", x.minute(60), 62);
        due("drift(60)", x.drift(60), 122);
        x = new NightStreet();
        for (int n : outside) {
            due("minute(" + n + ") without a STREET", x.minute(n), OUTSIDE);
            due("drift(" + n + ") without a STREET", x.drift(n), OUTSIDE);
        }
        due("minute(1) without a STREET", x.minute(1), NOT);
        due("minute(60) without a STREET", x.minute(60), NOT);
        due("drift(1) without a STREET", x.drift(1), NOT);
        due("drift(60) without a STREET", x.drift(60), NOT);
        due("nothing has changed", x.told(6), 0);
    }

    /** It needs more than the 512 calls that the document answers for; the bound is told all the same. */
    private static void ninetyThousand() {
        CHECK.sentence("FULL: MINUTES are above 90000");
        NightStreet x = Check.street(STREET);
        for (int i = 0; i < 1499; i++) {
            x.minute(60);
        }
        due("to 90000", x.minute(60), 90000);
        due("90000 are not above it", x.minute(1), 90001);
        due("minute(1) at 90001", x.minute(1), FULL);
        due("minute(60) at 90001", x.minute(60), FULL);
        due("drift(1) at 90001", x.drift(1), FULL);
        due("OUTSIDE ahead of FULL", x.minute(0), OUTSIDE);
        due("OUTSIDE ahead of FULL", x.drift(61), OUTSIDE);
        due("MINUTES", x.told(6), 90001);
        due("no DRAWS", seedOf(x), 0);
        due("undo(1)", x.undo(1), 90000);
        due("drift(60) at 90000", x.drift(60), 90060);
        due("drift(60) at 90060", x.drift(60), FULL);
        due("YARDS at 90060, t 0 of the NIGHT", x.gap(0, 1), 9);
    }

    private static void eachDraw() {
        CHECK.sentence("for each WALKER who STANDS a DRAW of 4: on 0 he GOES up, on 1 down, on 2 not, on 3 as he did");
        int[] wayDrawn = {UP, DOWN, STILL};
        for (int draw = 0; draw <= 3; draw++) {
            for (int way = DOWN; way <= UP; way++) {
                NightStreet x = Check.street("s1 0 1;h5,5;w1 1;");
                x.go(0, way);
                x.seed(SEED_FOR[draw]);
                x.drift(1);
                int went = draw == 3 ? way : wayDrawn[draw];
                due("way " + way + ", DRAW " + draw, x.walker(0, 3), went);
                due("way " + way + ", DRAW " + draw, x.walker(0, 1), went == UP ? 1 : went == DOWN ? 0 : NONE);
            }
        }
        CHECK.sentence("GOES where no GAP is, by a DRAW: he GOES not");
        NightStreet x = Check.street("s1 0 1;h5,5;w2 1;");
        x.seed(SEED_FOR[0]);
        x.drift(1);
        due("up from the last HOUSE", x.walker(0, 3), STILL);
        due("he STANDS there", x.walker(0, 0), 2);
    }

    private static void whoDraws() {
        CHECK.sentence("n MINUTES: ahead of each, for each WALKER who STANDS a DRAW");
        NightStreet x = Check.street("s1 0 1;h60;");
        x.seed(5);
        x.drift(60);
        due("without WALKERS no DRAW", seedOf(x), 5);
        x = Check.street("s1 0 1;h60;w0 1;w1 1;");
        x.go(0, UP);
        x.go(1, DOWN);
        x.minute(1);
        x.drift(58);
        due("IN a GAP no DRAW", seedOf(x), 0);
        due("59 yards on", x.walker(0, 2), 59);
        x.drift(1);
        due("still none: they were IN it ahead of the MINUTE", seedOf(x), 0);
        due("he STANDS now", x.walker(0, 0), 1);
        x.drift(1);
        due("two DRAWS", seedOf(x), 1406932606);
        x = Check.street("s1 0 1;h60;w0 1;w1 1;w0 1;w1 1;");
        x.minute(60);
        due("minute() draws nothing", seedOf(x), 0);
    }

    // ---- THE SEED

    private static void seedBounds() {
        CHECK.sentence("THE SEED becomes v (0 .. 2147483647): what it was. OUTSIDE.");
        NightStreet x = new NightStreet();
        due("0 at first", x.seed(0), 0);
        due("0", x.seed(1), 0);
        due("-1", x.seed(-1), OUTSIDE);
        due("the least int", x.seed(Integer.MIN_VALUE), OUTSIDE);
        due("as it was", x.seed(2147483647), 1);
        due("2147483647", x.seed(2147483646), 2147483647);
        due("2147483646", x.seed(0), 2147483646);
    }

    private static void seedWraps() {
        CHECK.sentence("it times 1103515245 and 12345, left over by 2 to the 31");
        int[] from = {0, 1, 2, 65536, 2147483646, 2147483647};
        int[] to = {12345, 1103527590, 59559187, 1315778617, 2087949151, 1043980748};
        for (int i = 0; i < from.length; i++) {
            NightStreet x = Check.street("s1 0 1;h60;w0 1;");
            x.seed(from[i]);
            x.drift(1);
            due("one DRAW from " + from[i], seedOf(x), to[i]);
        }
    }

    private static void drawIsCut() {
        CHECK.sentence("the DRAW of n is it / 65536, left over by n");
        // From these THE SEED comes to 0, 65535 | 65536, 131071 | 131072, 196607 | 196608, 262143 | 262144 | 2147483647.
        int[] from = {2088216195, 2032319262, 1742513795, 1686616862, 1396811395, 1340914462, 1051108995, 995212062, 705406595, 230538014};
        int[] to = {0, 65535, 65536, 131071, 131072, 196607, 196608, 262143, 262144, 2147483647};
        int[] draws = {0, 0, 1, 1, 2, 2, 3, 3, 0, 3};
        int[] gapsThen = {1, 0, NONE};
        for (int i = 0; i < from.length; i++) {
            for (int way = DOWN; way <= UP; way++) {
                NightStreet x = Check.street("s1 0 1;h5,5;w1 1;");
                x.seed(from[i]);
                x.go(0, way);
                x.drift(1);
                int asHeDid = way == UP ? 1 : way == DOWN ? 0 : NONE;
                due("THE SEED", seedOf(x), to[i]);
                due("the GAP by " + to[i], x.walker(0, 1), draws[i] == 3 ? asHeDid : gapsThen[draws[i]]);
            }
        }
    }

    // ---- undo()

    private static void undoBounds() {
        CHECK.sentence("The n latest (1 .. 30) are undone: MINUTES. OUTSIDE, NOT: not so many.");
        NightStreet x = Check.street(STREET);
        due("undo(0)", x.undo(0), OUTSIDE);
        due("undo(31)", x.undo(31), OUTSIDE);
        due("undo(-1)", x.undo(-1), OUTSIDE);
        due("undo(1) of none", x.undo(1), NOT);
        due("undo(30) of none", x.undo(30), NOT);
        x.minute(1);
        due("undo(2) of one", x.undo(2), NOT);
        due("as it was", x.told(6), 1);
        due("undo(1) of one", x.undo(1), 0);
        due("undo(1) of none", x.undo(1), NOT);
        x.minute(29);
        due("told(10)", x.told(10), 29);
        due("undo(30) of 29", x.undo(30), NOT);
        due("undo(29) of 29", x.undo(29), 0);
        x.minute(30);
        due("told(10)", x.told(10), 30);
        due("undo(30) of 30", x.undo(30), 0);
        x.minute(31);
        due("told(10): the first is not kept", x.told(10), 30);
        due("undo(30) of 30", x.undo(30), 1);
        due("undo(1): none is left", x.undo(1), NOT);
        x.minute(60);
        due("undo(29)", x.undo(29), 32);
        due("undo(2) of one", x.undo(2), NOT);
        due("undo(1)", x.undo(1), 31);
        due("without a STREET", new NightStreet().undo(1), NOT);
        due("without a STREET, 31", new NightStreet().undo(31), OUTSIDE);
    }

    private static void deed(NightStreet x, int i) {
        switch (i % 5) {
            case 0 -> x.go(i % 2, i % 3 == 0 ? UP : DOWN);
            case 1 -> x.rope(i % 2, i % 4 < 2);
            case 3 -> x.drift(1);
            default -> x.minute(1);
        }
    }

    private static void thirtyOfMany() {
        CHECK.sentence("UNDONE: the latest go(), rope(), each MINUTE (30 at most are kept): all is as ahead of it; THE SEED stays");
        for (int n = 1; n <= 30; n++) {
            NightStreet x = Check.street(STREET);
            String[] before = new String[100];
            for (int i = 0; i < before.length; i++) {
                before[i] = sceneOf(x);
                deed(x, i);
                due("told(10) after " + (i + 1), x.told(10), Math.min(30, i + 1));
            }
            int seed = seedOf(x);
            x.undo(n);
            CHECK.isTrue("undo(" + n + ") of 100", before[100 - n].equals(sceneOf(x)));
            due("THE SEED stays", seedOf(x), seed);
            due("told(10)", x.told(10), 30 - n);
            // What comes behind it takes the places that are free again.
            for (int i = 0; i < n; i++) {
                x.minute(1);
            }
            due("told(10)", x.told(10), 30);
            x.undo(30);
            CHECK.isTrue("the 30 latest of them", before[70].equals(sceneOf(x)));
        }
    }

    private static String sceneOf(NightStreet x) {
        StringBuilder all = new StringBuilder().append(x.told(6)).append(' ').append(x.told(7));
        for (int w = 0; w < 2; w++) {
            for (int what = 0; what <= 5; what++) {
                all.append(' ').append(x.walker(w, what));
            }
        }
        return all.toString();
    }

    private static void whatIsNotKept() {
        CHECK.sentence("UNDONE: the latest go(), rope(), each MINUTE; nothing else, nothing refused");
        NightStreet x = Check.street(STREET);
        x.seed(4);
        x.met(0, 1);
        x.write(0, 0);
        x.tear();
        x.feed('s');
        x.comes(0, 1);
        x.go(2, UP);
        x.go(0, 3);
        x.rope(2, true);
        x.minute(0);
        x.drift(61);
        x.undo(1);
        due("told(10)", x.told(10), 0);
        x.go(0, STILL);
        due("a go() that changes nothing", x.told(10), 1);
        x.rope(1, true);
        due("a rope() that changes nothing", x.told(10), 2);
        x.minute(2);
        due("each MINUTE", x.told(10), 4);
        x.drift(3);
        due("each MINUTE BY DRAWS", x.told(10), 7);
        x.undo(2);
        due("undo() is not undone", x.told(10), 5);
    }

    private static void undoneDraws() {
        CHECK.sentence("each MINUTE (with the DRAWS ahead of it): all of section 2 as ahead of it; THE SEED stays");
        NightStreet x = Check.street("s1 0 1;h5,5;w1 1;");
        x.go(0, DOWN);
        x.seed(SEED_FOR[0]);
        x.drift(1);
        due("up by the DRAW", x.walker(0, 3), UP);
        due("undo(1)", x.undo(1), 0);
        due("he GOES as ahead of the DRAW", x.walker(0, 3), DOWN);
        due("he STANDS", x.walker(0, 0), 1);
        due("THE SEED stays", seedOf(x), 12345);
    }

    // ---- IMAGES

    private static void imageBounds() {
        CHECK.sentence("IMAGES 0, 1: keep() UNKNOWN; goBack() UNKNOWN, NOT: it was not kept");
        NightStreet x = Check.street(STREET);
        int[] unknown = {-1, 2, 32, Integer.MIN_VALUE, Integer.MAX_VALUE};
        for (int i : unknown) {
            due("keep(" + i + ")", x.keep(i), UNKNOWN);
            due("goBack(" + i + ")", x.goBack(i), UNKNOWN);
        }
        due("goBack(0)", x.goBack(0), NOT);
        due("goBack(1)", x.goBack(1), NOT);
        due("keep(1)", x.keep(1), 1);
        due("goBack(0): 1 was kept", x.goBack(0), NOT);
        due("goBack(1)", x.goBack(1), 1);
        due("keep(0)", x.keep(0), 1);
        due("goBack(0)", x.goBack(0), 1);
        x = new NightStreet();
        due("without a STREET, not kept", x.goBack(0), NOT);
        due("without a STREET", x.keep(0), 1);
        x.seed(6);
        due("without a STREET", x.goBack(0), 1);
        due("THE SEED is kept without a STREET", seedOf(x), 0);
    }

    private static void refusedImagesLeaveThePast() {
        CHECK.sentence("What is refused changes nothing: keep(2), goBack(2), goBack() NOT leave what can be undone");
        NightStreet x = Check.street(STREET);
        x.minute(3);
        x.keep(2);
        x.goBack(2);
        x.goBack(0);
        due("told(10)", x.told(10), 3);
        due("undo(3)", x.undo(3), 0);
    }

    private static void nothingToBeUndoneThen() {
        CHECK.sentence("keep(), goBack(): (nothing can be undone then); since the text or IMAGE");
        NightStreet x = Check.street(STREET);
        x.minute(60);
        x.keep(0);
        due("told(10) after keep()", x.told(10), 0);
        due("undo(1) after keep()", x.undo(1), NOT);
        x.minute(2);
        due("told(10)", x.told(10), 2);
        due("undo(3)", x.undo(3), NOT);
        x.goBack(0);
        due("told(10) after goBack()", x.told(10), 0);
        due("undo(1) after goBack()", x.undo(1), NOT);
        due("MINUTES", x.told(6), 60);
        x.minute(31);
        due("undo(30)", x.undo(30), 61);
        x.minute(1);
        Check.tell(x, STREET);
        due("told(10) after street()", x.told(10), 0);
        due("undo(1) after street()", x.undo(1), NOT);
    }

    private static void whatIsKept() {
        CHECK.sentence("IMAGES 0, 1 keep these (section 2, ROPES), THE SEED");
        NightStreet x = Check.street(STREET);
        String atFirst = sceneOf(x);
        x.keep(0);
        x.seed(9);
        x.go(0, UP);
        x.go(1, DOWN);
        x.rope(0, true);
        x.rope(1, false);
        x.minute(3);
        String later = sceneOf(x);
        x.keep(1);
        x.drift(60);
        x.go(0, DOWN);
        for (int i = 0; i < 2; i++) {
            due("goBack(1)", x.goBack(1), 1);
            CHECK.isTrue("as it was kept", later.equals(sceneOf(x)));
            due("THE SEED", seedOf(x), 9);
            x.seed(3);
            x.drift(7);
            due("goBack(0)", x.goBack(0), 1);
            CHECK.isTrue("as it was kept", atFirst.equals(sceneOf(x)));
            due("THE SEED", seedOf(x), 0);
            x.minute(5);
        }
        CHECK.sentence("IMAGE i becomes what is so: the latest keep() counts, the other IMAGE stays");
        x.keep(0);
        String latest = sceneOf(x);
        x.minute(1);
        x.goBack(0);
        CHECK.isTrue("the latest", latest.equals(sceneOf(x)));
        x.goBack(1);
        CHECK.isTrue("the other", later.equals(sceneOf(x)));
        CHECK.sentence("street(): IMAGES are gone; with a FAULT all is as it was");
        Check.tell(x, "x");
        due("goBack(0) after a FAULT", x.goBack(0), 1);
        Check.tell(x, STREET);
        due("goBack(0)", x.goBack(0), NOT);
        due("goBack(1)", x.goBack(1), NOT);
    }

    public static void main(String[] args) {
        minuteBounds();
        ninetyThousand();
        eachDraw();
        whoDraws();
        seedBounds();
        seedWraps();
        drawIsCut();
        undoBounds();
        thirtyOfMany();
        whatIsNotKept();
        undoneDraws();
        imageBounds();
        refusedImagesLeaveThePast();
        nothingToBeUndoneThen();
        whatIsKept();
        CHECK.end();
    }
}
