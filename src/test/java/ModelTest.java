import java.util.Random;

/** Drawn runs of calls, on the class and on the plain model at once; wild numbers among them, and no call throws. */
public final class ModelTest {
    private static final Check CHECK = new Check();
    private static final int[] EDGES = {Integer.MIN_VALUE, Integer.MIN_VALUE + 1, -1000000001, -129, -2, -1, 0, 1, 2, 3, 4, 5, 7, 8,
        9, 10, 29, 30, 31, 32, 33, 40, 41, 59, 60, 61, 63, 64, 119, 120, 121, 255, 256, 299, 300, 301, 600, 601, 999, 1000, 1001,
        65536, 2147483646, Integer.MAX_VALUE};

    private final Random random;
    private final NightStreet x = new NightStreet();
    private final Model m = new Model();
    private final StringBuilder told = new StringBuilder();

    private ModelTest(long seed) {
        random = new Random(seed);
    }

    private int upTo(int n) {
        return random.nextInt(n + 1);
    }

    /** Mostly within its bounds, at times just beyond, seldom wild. */
    private int number(int least, int most) {
        int kind = random.nextInt(40);
        if (kind == 0) {
            return EDGES[random.nextInt(EDGES.length)];
        }
        if (kind == 1) {
            return random.nextBoolean() ? least - 1 : most + 1;
        }
        if (kind == 2) {
            return random.nextBoolean() ? least : most;
        }
        return least + random.nextInt(most - least + 1);
    }

    private String blanks() {
        return random.nextInt(8) == 0 ? " ".repeat(1 + upTo(1)) : "";
    }

    private String figures(int n) {
        String plain = Integer.toString(n);
        return random.nextInt(12) == 0 && plain.length() < 3 ? "0" + plain : plain;
    }

    private String goodText() {
        StringBuilder s = new StringBuilder(blanks());
        s.append('s').append(blanks()).append(figures(1 + upTo(random.nextBoolean() ? 59 : 9))).append(' ')
                .append(figures(upTo(40))).append(' ').append(blanks()).append(figures(1 + upTo(random.nextBoolean() ? 49 : 4)))
                .append(blanks()).append(';');
        if (random.nextInt(20) == 0) {
            return s.toString();
        }
        int gaps = 1 + upTo(7);
        s.append(blanks()).append('h');
        for (int k = 0; k < gaps; k++) {
            s.append(k == 0 ? "" : ",").append(blanks()).append(figures(1 + upTo(random.nextBoolean() ? 59 : 9))).append(blanks());
        }
        s.append(';');
        int walkers = upTo(4);
        for (int i = 0; i < walkers; i++) {
            s.append(blanks()).append('w').append(figures(upTo(gaps))).append(' ')
                    .append(figures(1 + upTo(random.nextBoolean() ? 39 : 3))).append(";");
        }
        for (int k = gaps - 1; k >= 0; k--) {
            s.append(random.nextInt(4) == 0 ? "r" + figures(k) + ";" + blanks() : "");
        }
        return s.toString();
    }

    private String text() {
        StringBuilder s = new StringBuilder(goodText());
        if (random.nextInt(3) != 0) {
            return s.toString();
        }
        String letters = "shwr;;,,  0123456789x";
        int changes = 1 + upTo(2);
        for (int i = 0; i < changes && s.length() > 0; i++) {
            int at = random.nextInt(s.length());
            char c = letters.charAt(random.nextInt(letters.length()));
            int kind = random.nextInt(5);
            if (kind == 0) {
                s.deleteCharAt(at);
            } else if (kind == 1) {
                s.insert(at, c);
            } else if (kind == 2) {
                s.setCharAt(at, c);
            } else if (kind == 3) {
                s.setLength(at);
            } else {
                s.append(s.substring(at));
            }
        }
        return s.toString();
    }

    private void due(String call, int got, int want) {
        told.append(call).append(" = ").append(want).append('\n');
        CHECK.due(call, got, want);
    }

    private void tellBoth() {
        String s = text();
        for (int i = 0; i < s.length(); i++) {
            due("feed(" + (int) s.charAt(i) + ")", x.feed(s.charAt(i)), m.feed(s.charAt(i)));
        }
        due("street() of '" + s + "'", x.street(), m.street());
        due("fault() of '" + s + "'", x.fault(), m.fault());
    }

    private void deed() {
        int a;
        int b;
        switch (random.nextInt(8)) {
            case 0, 1 -> {
                a = number(0, 3);
                b = number(0, 2);
                due("go(" + a + ", " + b + ")", x.go(a, b), m.go(a, b));
            }
            case 2 -> {
                a = number(0, 7);
                boolean is = random.nextBoolean();
                due("rope(" + a + ", " + is + ")", x.rope(a, is), m.rope(a, is));
            }
            case 3, 4 -> {
                a = random.nextBoolean() ? 1 : number(1, 60);
                due("minute(" + a + ")", x.minute(a), m.minute(a));
            }
            case 5 -> {
                a = random.nextBoolean() ? 1 : number(1, 60);
                due("drift(" + a + ")", x.drift(a), m.drift(a));
            }
            case 6 -> {
                a = random.nextBoolean() ? 1 : number(1, 30);
                due("undo(" + a + ")", x.undo(a), m.undo(a));
            }
            default -> keepOrGoBack();
        }
    }

    private void keepOrGoBack() {
        int a = number(0, 1);
        int v = number(0, 2147483646);
        switch (random.nextInt(4)) {
            case 0 -> due("keep(" + a + ")", x.keep(a), m.keep(a));
            case 1 -> due("goBack(" + a + ")", x.goBack(a), m.goBack(a));
            case 2 -> due("seed(" + v + ")", x.seed(v), m.seed(v));
            default -> due("tear()", x.tear(), m.tear());
        }
    }

    private void ask() {
        int a = number(0, Math.max(1, m.told(3) - 1));
        int b = number(0, Math.max(1, m.told(3) - 1));
        int w = number(0, Math.max(1, m.told(4) - 1));
        int z = number(0, Math.max(1, m.told(4) - 1));
        int v = number(1, random.nextBoolean() ? 40 : 4);
        int t = number(0, 119);
        int n = number(0, random.nextBoolean() ? 300 : 30);
        int what = number(0, 2);
        switch (random.nextInt(11)) {
            case 0 -> due("apart(" + w + ", " + z + ")", x.apart(w, z), m.apart(w, z));
            case 1 -> due("howLong(" + t + ")", x.howLong(t), m.howLong(t));
            case 2 -> due("takes(" + a + ", " + b + ", " + v + ", " + t + ")", x.takes(a, b, v, t), m.takes(a, b, v, t));
            case 3 -> due("setOut(" + a + ", " + b + ", " + v + ", " + t + ", " + what + ")", x.setOut(a, b, v, t, what),
                    m.setOut(a, b, v, t, what));
            case 4 -> due("comes(" + w + ", " + a + ")", x.comes(w, a), m.comes(w, a));
            case 5 -> due("meets(" + w + ", " + z + ")", x.meets(w, z), m.meets(w, z));
            case 6 -> due("ropes(" + a + ", " + b + ", " + v + ", " + n + ")", x.ropes(a, b, v, n), m.ropes(a, b, v, n));
            case 7 -> due("doctor(" + v + ", " + what + ")", x.doctor(v, what), m.doctor(v, what));
            case 8 -> due("beat(" + v + ")", x.beat(v), m.beat(v));
            case 9 -> due("rent(" + t + ")", x.rent(t), m.rent(t));
            default -> {
                int q = number(0, random.nextBoolean() ? 1000 : 20);
                int minutes = number(0, 60);
                due("lamp(" + minutes + ", " + q + ")", x.lamp(minutes, q), m.lamp(minutes, q));
            }
        }
    }

    private void note() {
        int k = number(0, Math.max(1, m.told(3) - 2));
        int w = number(0, Math.max(1, m.told(4) - 1));
        int what = number(0, 2);
        switch (random.nextInt(8)) {
            case 0, 1 -> {
                // What is so at some minute of the night, so that something fits.
                int now = x.gap(k, 2);
                int n = random.nextInt(3) == 0 || now < 0 ? number(0, random.nextBoolean() ? 999 : 20) : now;
                due("met(" + k + ", " + n + ")", x.met(k, n), m.met(k, n));
            }
            case 2 -> due("fits(" + what + ")", x.fits(what), m.fits(what));
            case 3 -> due("growths()", x.growths(), m.growths());
            case 4 -> due("lookAt()", x.lookAt(), m.lookAt());
            case 5, 6 -> {
                int now = x.walker(w, 0);
                int h = random.nextInt(3) == 0 || now < 0 ? number(0, Math.max(1, m.told(3) - 1)) : now;
                due("write(" + w + ", " + h + ")", x.write(w, h), m.write(w, h));
            }
            default -> due("judge()", x.judge(), m.judge());
        }
    }

    private void look() {
        int a = number(0, 10);
        due("told(" + a + ")", x.told(a), m.told(a));
        int k = number(0, 7);
        int w = number(0, 3);
        int what = number(0, 5);
        due("gap(" + k + ", " + what + ")", x.gap(k, what), m.gap(k, what));
        due("walker(" + w + ", " + what + ")", x.walker(w, what), m.walker(w, what));
    }

    private void lookAtAll() {
        for (int what = 0; what <= 10; what++) {
            due("told(" + what + ")", x.told(what), m.told(what));
        }
        for (int k = 0; k < 8; k++) {
            for (int what = 0; what <= 3; what++) {
                due("gap(" + k + ", " + what + ")", x.gap(k, what), m.gap(k, what));
            }
        }
        for (int w = 0; w < 4; w++) {
            for (int what = 0; what <= 5; what++) {
                due("walker(" + w + ", " + what + ")", x.walker(w, what), m.walker(w, what));
            }
        }
    }

    private void run(int calls) {
        for (int i = 0; i < calls && !CHECK.hasWrong(); i++) {
            int kind = i == 0 ? 0 : random.nextInt(100);
            if (kind < 1) {
                tellBoth();
            } else if (kind < 45) {
                deed();
            } else if (kind < 70) {
                ask();
            } else if (kind < 85) {
                note();
            } else {
                look();
            }
        }
        lookAtAll();
    }

    public static void main(String[] args) {
        int runs = args.length > 0 ? Integer.parseInt(args[0]) : 1500;
        for (int i = 0; i < runs && !CHECK.hasWrong(); i++) {
            ModelTest one = new ModelTest(20261118L + i);
            one.run(150);
            if (CHECK.hasWrong()) {
                System.out.println("run " + i + ":\n" + one.told);
            }
        }
        CHECK.end();
    }
}
