/** What the tests share: answers against what is due, and streets told by whole texts. */
final class Check {
    static final int NONE = -1, UNKNOWN = -1000000001, OUTSIDE = -1000000002, NOT = -1000000003, FULL = -1000000004;
    static final int[] FAR = {Integer.MIN_VALUE, -1000000001, -2, Integer.MAX_VALUE};

    private String sentence = "";
    private int asked;
    private int wrong;

    /** The document's words that the next answers are held against: told with each that is wrong. */
    void sentence(String words) {
        sentence = words;
    }

    void due(String call, long got, long want) {
        asked++;
        if (got != want) {
            wrong++;
            if (wrong <= 50) {
                System.out.println((sentence.isEmpty() ? "" : "[" + sentence + "] ") + call + " answered " + got + ", due is " + want);
            }
        }
    }

    void isTrue(String what, boolean holds) {
        due(what, holds ? 1 : 0, 1);
    }

    boolean hasWrong() {
        return wrong > 0;
    }

    void end() {
        System.out.println(asked + " answers looked at, " + wrong + " wrong");
        if (wrong != 0 || asked == 0) {
            System.exit(1);
        }
    }

    static void feedAll(NightStreet x, String text) {
        for (int i = 0; i < text.length(); i++) {
            x.feed(text.charAt(i));
        }
    }

    static int tell(NightStreet x, String text) {
        feedAll(x, text);
        return x.street();
    }

    static NightStreet street(String text) {
        NightStreet x = new NightStreet();
        int answer = tell(x, text);
        if (answer < 0) {
            throw new IllegalStateException("the test's own text has a fault: " + text);
        }
        return x;
    }

    /** All that can be seen of an object, without changing it. */
    static String seen(NightStreet x) {
        StringBuilder all = new StringBuilder();
        for (int what = 0; what <= 10; what++) {
            all.append(x.told(what)).append(' ');
        }
        all.append('|').append(x.fault());
        for (int k = 0; k < 8; k++) {
            all.append('|');
            for (int what = 0; what <= 3; what++) {
                all.append(x.gap(k, what)).append(' ');
            }
        }
        for (int w = 0; w < 4; w++) {
            all.append('|');
            for (int what = 0; what <= 5; what++) {
                all.append(x.walker(w, what)).append(' ');
            }
        }
        int seed = x.seed(0);
        x.seed(seed);
        return all.append('|').append(seed).append('|').append(x.judge()).append('|').append(x.growths())
                .append('|').append(x.fits(0)).append(' ').append(x.fits(1)).append(' ').append(x.fits(2)).toString();
    }

    /** All that is hidden too: what could be undone, IMAGES, THE TEXT. It uses the object up. */
    static String seenToTheEnd(NightStreet x) {
        StringBuilder all = new StringBuilder(seen(x));
        for (int i = x.told(10); i > 0; i--) {
            all.append("\nundo ").append(x.undo(1)).append(' ').append(seen(x));
        }
        for (int i = 0; i <= 1; i++) {
            all.append("\nimage ").append(x.goBack(i)).append(' ').append(seen(x));
        }
        return all.append("\ntext ").append(x.street()).append(' ').append(seen(x)).toString();
    }
}
