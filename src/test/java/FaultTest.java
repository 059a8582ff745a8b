/** Promises 2 to 5: the text, letter by letter, and the first fault of it. */
public final class FaultTest {
    private static final Check CHECK = new Check();

    private static void fault(String text, int kind, int place) {
        NightStreet x = Check.street("s7 3 2;h5,6;w1 4;r1;");
        x.minute(3);
        x.go(0, 2);
        x.met(0, 1);
        x.write(0, 1);
        x.keep(1);
        x.rope(0, true);
        x.seed(77);
        String before = Check.seen(x).replaceFirst("\\|-1", "|" + place);
        CHECK.due("street() of '" + text + "'", Check.tell(x, text), -10 - kind);
        CHECK.due("fault() of '" + text + "'", x.fault(), place);
        CHECK.due("told(5) after '" + text + "'", x.told(5), 0);
        CHECK.isTrue("all is as it was after '" + text + "'", before.equals(Check.seen(x)));
        CHECK.due("undo(1) after '" + text + "'", x.undo(1), 3);
        CHECK.due("goBack(1) after '" + text + "'", x.goBack(1), 1);
        CHECK.due("goBack(0) after '" + text + "'", x.goBack(0), Check.NOT);
    }

    private static void fine(String text, int walkers) {
        NightStreet x = Check.street("s7 3 2;h5,6;w1 4;r1;");
        Check.tell(x, "x");
        CHECK.due("street() of '" + text + "'", Check.tell(x, text), walkers);
        CHECK.due("fault() of '" + text + "'", x.fault(), Check.NONE);
        CHECK.due("told(5) of '" + text + "'", x.told(5), 0);
    }

    private static void cannotStandThere() {
        fault("h1;", 1, 0);
        fault("  w0 1;", 1, 2);
        fault("x", 1, 0);
        fault("S1 0 1;", 1, 0);
        fault(";", 1, 0);
        fault("1", 1, 0);
        fault("9999", 1, 0);
        fault("\t", 1, 0);
        fault("s", 1, 1);
        fault("s  ", 1, 3);
        fault("s1", 1, 2);
        fault("s1 0 1", 1, 6);
        fault("s1 0 1 ", 1, 7);
        fault("s1 0;", 1, 4);
        fault("s;", 1, 1);
        fault("s1,0 1;", 1, 2);
        fault("s-1 0 1;", 1, 1);
        fault("s1 0 1 1;", 1, 7);
        fault("s1 0 1 1111;", 1, 7);
        fault("s1 0 1;;", 1, 7);
        fault("s1 0 1;x", 1, 7);
        fault("s1 0 1;5", 1, 7);
        fault("s1 0 1;h", 1, 8);
        fault("s1 0 1;h;", 1, 8);
        fault("s1 0 1;h,1;", 1, 8);
        fault("s1 0 1;h1,;", 1, 10);
        fault("s1 0 1;h1", 1, 9);
        fault("s1 0 1;h1,", 1, 10);
        fault("s1 0 1;h1 2;", 1, 10);
        fault("s1 0 1;h1w0 1;", 1, 9);
        fault("s1 0 1;h1,2,3,4,5,6,7,8,9;", 1, 23);
        fault("s1 0 1;h1,2,3,4,5,6,7,8 ,", 1, 24);
        fault("s1 0 1;h1,2,3,4,5,6,7,8,99;", 1, 23);
        fault("s1 0 1;h1;w;", 1, 11);
        fault("s1 0 1;h1;w1;", 1, 12);
        fault("s1 0 1;h1;w1,1;", 1, 12);
        fault("s1 0 1;h1;w1 1", 1, 14);
        fault("s1 0 1;h1;r;", 1, 11);
        fault("s1 0 1;h1;r0", 1, 12);
        fault("s1 0 1;h1;r0 1;", 1, 13);
        fault("s1 0 1;" + (char) 0, 1, 7);
        fault("s1 0 1;" + (char) 255, 1, 7);
        fault("s1 0 1" + (char) 160 + ";", 1, 6);
    }

    private static void numbersOutOfBounds() {
        fault("s0 0 1;", 2, 1);
        fault("s 61 0 1;", 2, 2);
        fault("s1 41 1;", 2, 3);
        fault("s1 0 0;", 2, 5);
        fault("s1 0 51", 2, 5);
        fault("s0001 0 1;", 2, 1);
        fault("s1 0000 1;", 2, 3);
        fault("s99999999999999999999999 0 1;", 2, 1);
        fault("s4294967297 0 1;", 2, 1);
        fault("s999x", 2, 1);
        fault("s1 0 1;h0;", 2, 8);
        fault("s1 0 1;h61;", 2, 8);
        fault("s1 0 1;h1, 61", 2, 11);
        fault("s1 0 1;h1,0001;", 2, 10);
        fault("s1 0 1;w0 1;", 2, 8);
        fault("s1 0 1;r0;", 2, 8);
        fault("s1 0 1;h1;w2 1;", 2, 11);
        fault("s1 0 1;h1;w 2;", 2, 12);
        fault("s1 0 1;h1;w0 0;", 2, 13);
        fault("s1 0 1;h1;w0 41;", 2, 13);
        fault("s1 0 1;h1;w999 0;", 2, 11);
        fault("s1 0 1;h1;r1;", 2, 11);
        fault("s1 0 1;h1;r0000;", 2, 11);
        fault("s1 0 1;h1;r0;r1;", 2, 14);
    }

    private static void wordsAndRopesAgain() {
        fault("s1 0 1;s1 0 1;", 3, 7);
        fault("s1 0 1; s", 3, 8);
        fault("s1 0 1;h1;h", 3, 10);
        fault("s1 0 1;h1;w0 1;h1;", 3, 15);
        fault("s1 0 1;h1;w0 1;w0 1;w0 1;w0 1;w", 3, 30);
        fault("s1 0 1;h1;w0 1;w0 1;w0 1;w0 1;r0; w9 9;", 3, 34);
        fault("s1 0 1;h1;r0;r0;", 4, 14);
        fault("s1 0 1;h1,1;r1;r0;r 1x", 4, 20);
        fault("s1 0 1;h1,1;r0;r000", 4, 16);
    }

    private static void withoutFault() {
        fine("", 0);
        fine("   ", 0);
        fine("s1 0 1;", 0);
        fine("s60 40 50;", 0);
        fine("s 1  0 1 ; h 1 , 2;w 0 1 ; r 0 ;  ", 1);
        fine("s001 000 001;h001;w000 001;r000;", 1);
        fine("s1 0 1;h60,60,60,60,60,60,60,60;w8 40;w0 1;w4 2;w8 3;r7;r0;", 4);
        fine("s1 0 1;h1;r0;w1 1;", 1);
    }

    private static void feeding() {
        NightStreet x = new NightStreet();
        CHECK.due("feed(-1)", x.feed(-1), Check.OUTSIDE);
        CHECK.due("feed(256)", x.feed(256), Check.OUTSIDE);
        for (int far : Check.FAR) {
            CHECK.due("feed(" + far + ")", x.feed(far), Check.OUTSIDE);
        }
        for (int i = 0; i < 193; i++) {
            CHECK.due("feed a blank", x.feed(32), i + 1);
        }
        CHECK.due("told(5)", x.told(5), 193);
        String text = "s1 0 1;";
        for (int i = 0; i < text.length(); i++) {
            CHECK.due("feed " + text.charAt(i), x.feed(text.charAt(i)), 194 + i);
        }
        CHECK.due("feed the 201st", x.feed(32), Check.FULL);
        CHECK.due("feed a wrong 201st", x.feed(256), Check.OUTSIDE);
        CHECK.due("told(5) of a full text", x.told(5), 200);
        CHECK.due("fault() ahead of street()", x.fault(), Check.NONE);
        CHECK.due("street() of a full text", x.street(), 0);
        CHECK.due("told(0)", x.told(0), 1);
        CHECK.due("told(5)", x.told(5), 0);
        CHECK.due("feed(0)", x.feed(0), 1);
        CHECK.due("feed(255)", x.feed(255), 2);
        CHECK.due("street()", x.street(), -11);
        CHECK.due("fault()", x.fault(), 0);
    }

    private static void fullTextEndsAt200() {
        NightStreet x = new NightStreet();
        StringBuilder text = new StringBuilder("s1 0 1");
        while (text.length() < 200) {
            text.append(' ');
        }
        CHECK.due("street() of 200 letters", Check.tell(x, text.append(';').toString()), -11);
        CHECK.due("fault() at the end", x.fault(), 200);
    }

    public static void main(String[] args) {
        cannotStandThere();
        numbersOutOfBounds();
        wordsAndRopesAgain();
        withoutFault();
        feeding();
        fullTextEndsAt200();
        CHECK.end();
    }
}
