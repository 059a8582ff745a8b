import java.util.ArrayList;
import java.util.LinkedHashSet;
import java.util.List;
import java.util.Set;

/**
 * 'Terms': each refusal of each call, alone and together with others, in states from empty to full, and that what
 * is refused changes nothing. Which refusal is due is reckoned from the table of promises here and from what is
 * written down of each state, never from what the class tells.
 */
public final class RefusalTest {
    private static final Check CHECK = new Check();
    private static final int UNKNOWN = Check.UNKNOWN, OUTSIDE = Check.OUTSIDE, NOT = Check.NOT, FULL = Check.FULL;
    private static final int NO_REFUSAL = 0;

    private enum Kind { HOUSE, GAP, WALKER, IMAGE, NUMBER }

    private record Part(Kind kind, int least, int most) {
    }

    private interface Call {
        int on(NightStreet x, int[] a);
    }

    /** NOT or FULL or NO_REFUSAL, where all numbers are known and within their bounds. */
    private interface Late {
        int refusal(State s, int[] a);
    }

    private interface Maker {
        NightStreet make();
    }

    private record State(String name, Maker maker, boolean isTold, int gaps, int walkers, String inGap, int letters, int undoable,
            String kept, int metCount, int bookCount) {
        int count(Kind kind) {
            return switch (kind) {
                case HOUSE -> gaps == 0 ? 0 : gaps + 1;
                case GAP -> gaps;
                case WALKER -> walkers;
                default -> 2;
            };
        }
    }

    private record Promise(String name, boolean changesNothing, Call call, Late late, Part... parts) {
    }

    private static final Part HOUSE = new Part(Kind.HOUSE, 0, 0), GAP = new Part(Kind.GAP, 0, 0),
        WALKER = new Part(Kind.WALKER, 0, 0), IMAGE = new Part(Kind.IMAGE, 0, 0);
    private static final Part PACE = new Part(Kind.NUMBER, 1, 40);
    private static final Late NEVER = (s, a) -> NO_REFUSAL;
    private static final Late NO_STREET = (s, a) -> s.isTold() ? NO_REFUSAL : NOT;

    private static Part from(int least, int most) {
        return new Part(Kind.NUMBER, least, most);
    }

    // ---- the promises

    private static List<Promise> deeds() {
        return List.of(
            new Promise("feed", false, (x, a) -> x.feed(a[0]), (s, a) -> s.letters() == 200 ? FULL : NO_REFUSAL, from(0, 255)),
            new Promise("go", false, (x, a) -> x.go(a[0], a[1]),
                (s, a) -> a[1] == 1 && s.inGap().indexOf('0' + a[0]) >= 0 ? NOT : NO_REFUSAL, WALKER, from(0, 2)),
            new Promise("rope true", false, (x, a) -> x.rope(a[0], true), NEVER, GAP),
            new Promise("rope false", false, (x, a) -> x.rope(a[0], false), NEVER, GAP),
            new Promise("minute", false, (x, a) -> x.minute(a[0]), NO_STREET, from(1, 60)),
            new Promise("drift", false, (x, a) -> x.drift(a[0]), NO_STREET, from(1, 60)),
            new Promise("undo", false, (x, a) -> x.undo(a[0]), (s, a) -> a[0] > s.undoable() ? NOT : NO_REFUSAL, from(1, 30)),
            new Promise("met", false, (x, a) -> x.met(a[0], a[1]), (s, a) -> s.metCount() == 6 ? FULL : NO_REFUSAL, GAP, from(0, 999)),
            new Promise("write", false, (x, a) -> x.write(a[0], a[1]), (s, a) -> s.bookCount() == 20 ? FULL : NO_REFUSAL, WALKER, HOUSE),
            new Promise("tear", false, (x, a) -> x.tear(), NEVER),
            new Promise("seed", false, (x, a) -> x.seed(a[0]), NEVER, from(0, Integer.MAX_VALUE)),
            new Promise("keep", false, (x, a) -> x.keep(a[0]), NEVER, IMAGE),
            new Promise("goBack", false, (x, a) -> x.goBack(a[0]),
                (s, a) -> s.kept().indexOf('0' + a[0]) < 0 ? NOT : NO_REFUSAL, IMAGE));
    }

    private static List<Promise> questions() {
        return List.of(
            new Promise("fault", true, (x, a) -> x.fault(), NEVER),
            new Promise("told", true, (x, a) -> x.told(a[0]), NEVER, from(0, 10)),
            new Promise("gap", true, (x, a) -> x.gap(a[0], a[1]), NEVER, GAP, from(0, 3)),
            new Promise("walker", true, (x, a) -> x.walker(a[0], a[1]), NEVER, WALKER, from(0, 5)),
            new Promise("apart", true, (x, a) -> x.apart(a[0], a[1]), NEVER, WALKER, WALKER),
            new Promise("howLong", true, (x, a) -> x.howLong(a[0]), NO_STREET, from(0, 120)),
            new Promise("takes", true, (x, a) -> x.takes(a[0], a[1], a[2], a[3]), NEVER, HOUSE, HOUSE, PACE, from(0, 119)),
            new Promise("setOut", true, (x, a) -> x.setOut(a[0], a[1], a[2], a[3], a[4]), NEVER, HOUSE, HOUSE, PACE, from(0, 119),
                from(0, 2)),
            new Promise("comes", true, (x, a) -> x.comes(a[0], a[1]), NEVER, WALKER, HOUSE),
            new Promise("meets", true, (x, a) -> x.meets(a[0], a[1]), NEVER, WALKER, WALKER),
            new Promise("ropes", true, (x, a) -> x.ropes(a[0], a[1], a[2], a[3]), NEVER, HOUSE, HOUSE, PACE, from(0, 300)),
            new Promise("doctor", true, (x, a) -> x.doctor(a[0], a[1]), NEVER, PACE, from(0, 1)),
            new Promise("beat", true, (x, a) -> x.beat(a[0]), (s, a) -> s.gaps() == 0 ? NOT : NO_REFUSAL, PACE),
            new Promise("rent", true, (x, a) -> x.rent(a[0]), NO_STREET, from(0, 120)),
            new Promise("lamp", true, (x, a) -> x.lamp(a[0], a[1]), NEVER, from(0, 60), from(0, 1000)),
            new Promise("fits", true, (x, a) -> x.fits(a[0]), NEVER, from(0, 2)),
            new Promise("growths", true, (x, a) -> x.growths(), NEVER),
            new Promise("lookAt", true, (x, a) -> x.lookAt(), NEVER),
            new Promise("judge", true, (x, a) -> x.judge(), NEVER));
    }

    // ---- the states

    private static List<State> states() {
        return List.of(
            new State("a new object", NightStreet::new, false, 0, 0, "", 0, 0, "", 0, 0),
            new State("after an empty text", RefusalTest::emptied, false, 0, 0, "", 0, 0, "", 0, 0),
            new State("no houses", RefusalTest::bare, true, 0, 0, "", 0, 2, "", 0, 0),
            new State("no walkers", () -> Check.street("s3 4 2;h5;"), true, 1, 0, "", 0, 0, "", 0, 0),
            new State("some of all", RefusalTest::busy, true, 3, 3, "01", 2, 3, "1", 3, 3),
            new State("one less than full", () -> filled(1), true, 8, 4, "0", 199, 29, "0", 5, 19),
            new State("full", () -> filled(0), true, 8, 4, "0", 200, 30, "01", 6, 20));
    }

    private static NightStreet emptied() {
        NightStreet x = busy();
        x.street();
        x.seed(0);
        x.street();
        return x;
    }

    private static NightStreet bare() {
        NightStreet x = Check.street("s2 5 3;");
        x.minute(2);
        return x;
    }

    /** WALKERS 0 and 1 are IN GAPS 1 and 2, 2 STANDS at HOUSE 1 and GOES up. */
    private static NightStreet busy() {
        NightStreet x = Check.street("s7 3 2;h5,30,40;w1 4;w3 1;w0 9;r1;");
        x.seed(77);
        x.go(2, 2);
        x.keep(1);
        x.go(0, 2);
        x.go(1, 0);
        x.minute(1);
        for (int i = 0; i < 3; i++) {
            x.met(2, 19);
            x.write(2, 1);
        }
        Check.feedAll(x, "s1");
        return x;
    }

    /** WALKER 0 is IN GAP 0 for long, the others STAND; less: how many are left of all that has a most. */
    private static NightStreet filled(int less) {
        NightStreet x = Check.street("s60 40 1;h60,60,60,60,60,60,60,60;w0 1;w8 40;w4 3;w4 3;r7;");
        x.go(0, 2);
        x.minute(1);
        x.keep(0);
        if (less == 0) {
            x.keep(1);
        }
        x.minute(30 - less);
        for (int i = less; i < 6; i++) {
            x.met(i, 60);
        }
        for (int i = less; i < 20; i++) {
            x.write(1, 8);
        }
        Check.feedAll(x, " ".repeat(193 - less) + "s1 0 1;");
        return x;
    }

    // ---- what is due

    private static int[] candidates(State s, Part part) {
        Set<Integer> all = new LinkedHashSet<>();
        boolean isNumber = part.kind() == Kind.NUMBER;
        int least = isNumber ? part.least() : 0;
        int most = isNumber ? part.most() : s.count(part.kind()) - 1;
        all.add(Integer.MIN_VALUE);
        all.add(least - 1);
        all.add(least);
        all.add(Math.max(most, least));
        all.add(most == Integer.MAX_VALUE ? most : most + 1);
        if (!isNumber) {
            all.add(32);
        }
        all.add(Integer.MAX_VALUE);
        return all.stream().mapToInt(Integer::intValue).toArray();
    }

    private static int refusalDue(State s, Promise p, int[] a) {
        boolean outside = false;
        for (int i = 0; i < a.length; i++) {
            Part part = p.parts()[i];
            if (part.kind() == Kind.NUMBER) {
                outside |= a[i] < part.least() || a[i] > part.most();
            } else if (a[i] < 0 || a[i] >= s.count(part.kind()) || isTwice(p, a, i)) {
                return UNKNOWN;
            }
        }
        return outside ? OUTSIDE : p.late().refusal(s, a);
    }

    private static boolean isTwice(Promise p, int[] a, int i) {
        return i > 0 && p.parts()[i - 1].kind() == p.parts()[i].kind() && a[i - 1] == a[i];
    }

    private static List<int[]> combinations(State s, Promise p) {
        List<int[]> all = new ArrayList<>();
        all.add(new int[0]);
        for (Part part : p.parts()) {
            List<int[]> longer = new ArrayList<>();
            for (int[] head : all) {
                for (int one : candidates(s, part)) {
                    int[] row = java.util.Arrays.copyOf(head, head.length + 1);
                    row[head.length] = one;
                    longer.add(row);
                }
            }
            all = longer;
        }
        return all;
    }

    private static void look(State s, Promise p) {
        String before = Check.seenToTheEnd(s.maker().make());
        NightStreet refusing = s.maker().make();
        for (int[] a : combinations(s, p)) {
            String call = s.name() + ": " + p.name() + java.util.Arrays.toString(a);
            int want = refusalDue(s, p, a);
            if (want != NO_REFUSAL) {
                CHECK.due(call, p.call().on(refusing, a), want);
                continue;
            }
            NightStreet x = s.maker().make();
            CHECK.isTrue(call + " is not refused", p.call().on(x, a) >= Check.NONE);
            if (p.changesNothing()) {
                CHECK.isTrue(call + " changes nothing", before.equals(Check.seenToTheEnd(x)));
            }
        }
        CHECK.isTrue(s.name() + ": refused calls of " + p.name() + " change nothing", before.equals(Check.seenToTheEnd(refusing)));
    }

    /** What is written down of a state must be so, or the table would prove nothing. */
    private static void lookAtState(State s) {
        NightStreet x = s.maker().make();
        int[] due = {s.count(Kind.HOUSE), s.walkers(), s.letters()};
        for (int i = 0; i < due.length; i++) {
            CHECK.due(s.name() + ": told(" + (3 + i) + ")", x.told(3 + i), due[i]);
        }
        CHECK.due(s.name() + ": told(8)", x.told(8), s.metCount());
        CHECK.due(s.name() + ": told(9)", x.told(9), s.bookCount());
        CHECK.due(s.name() + ": told(10)", x.told(10), s.undoable());
        for (int w = 0; w < s.walkers(); w++) {
            CHECK.isTrue(s.name() + ": WALKER " + w, x.walker(w, 0) == Check.NONE == s.inGap().indexOf('0' + w) >= 0);
        }
    }

    public static void main(String[] args) {
        CHECK.sentence("REFUSALS, of several the first in this order: UNKNOWN, OUTSIDE, NOT, FULL. What is refused changes nothing.");
        for (State s : states()) {
            lookAtState(s);
            for (Promise p : deeds()) {
                look(s, p);
            }
            for (Promise p : questions()) {
                look(s, p);
            }
        }
        CHECK.end();
    }
}
