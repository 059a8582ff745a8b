import java.util.ArrayList;
import java.util.List;

/** The document once more, slow and plain and built otherwise than the class, to compare its answers with. */
final class Model {
    private static final int NONE = Check.NONE, UNKNOWN = Check.UNKNOWN, OUTSIDE = Check.OUTSIDE, NOT = Check.NOT, FULL = Check.FULL;

    /** A walker is between two houses (from, to) or stands (to is null). */
    private static final class Person {
        int from;
        Integer to;
        int yards;
        int sign;
        int pace;

        Person copy() {
            Person p = new Person();
            p.from = from;
            p.to = to;
            p.yards = yards;
            p.sign = sign;
            p.pace = pace;
            return p;
        }

        int gap() {
            return Math.min(from, to);
        }
    }

    private static final class World {
        int minutes;
        final boolean[] ropes = new boolean[8];
        final List<Person> people = new ArrayList<>();

        World copy() {
            World c = new World();
            c.minutes = minutes;
            System.arraycopy(ropes, 0, c.ropes, 0, 8);
            for (Person p : people) {
                c.people.add(p.copy());
            }
            return c;
        }
    }

    private static final class Fault extends RuntimeException {
        private static final long serialVersionUID = 1L;
        final int kind;
        final int place;

        Fault(int kind, int place) {
            this.kind = kind;
            this.place = place;
        }
    }

    private record Token(int place, String text) {
        boolean isNumber() {
            return !text.isEmpty() && Character.isDigit(text.charAt(0));
        }
    }

    private record Pair(int a, int b) {
    }

    private StringBuilder text = new StringBuilder();
    private int faultAt = NONE;
    private int p;
    private int g;
    private int w;
    private List<Integer> days = new ArrayList<>();
    private World world = new World();
    private final List<World> past = new ArrayList<>();
    private final World[] images = new World[2];
    private final long[] imageSeeds = new long[2];
    private long seed;
    private final List<Pair> metList = new ArrayList<>();
    private final List<Pair> book = new ArrayList<>();

    // ---- the text

    int feed(int letter) {
        if (letter < 0 || letter > 255) {
            return OUTSIDE;
        }
        if (text.length() >= 200) {
            return FULL;
        }
        text.append((char) letter);
        return text.length();
    }

    private static List<Token> tokens(String all) {
        List<Token> list = new ArrayList<>();
        int i = 0;
        while (i < all.length()) {
            int end = i + 1;
            if (all.charAt(i) >= '0' && all.charAt(i) <= '9') {
                while (end < all.length() && all.charAt(end) >= '0' && all.charAt(end) <= '9') {
                    end++;
                }
            }
            if (all.charAt(i) != ' ') {
                list.add(new Token(i, all.substring(i, end)));
            }
            i = end;
        }
        list.add(new Token(all.length(), ""));
        return list;
    }

    private List<Token> left;

    private Token nextToken() {
        return left.get(0);
    }

    private boolean take(String word) {
        if (nextToken().text().equals(word)) {
            left.remove(0);
            return true;
        }
        return false;
    }

    private void need(String word) {
        if (!take(word)) {
            throw new Fault(1, nextToken().place());
        }
    }

    private int number(int least, int most) {
        Token token = nextToken();
        if (!token.isNumber()) {
            throw new Fault(1, token.place());
        }
        if (token.text().length() > 3 || Integer.parseInt(token.text()) < least || Integer.parseInt(token.text()) > most) {
            throw new Fault(2, token.place());
        }
        left.remove(0);
        return Integer.parseInt(token.text());
    }

    int street() {
        left = tokens(text.toString());
        text = new StringBuilder();
        Model fresh = new Model();
        fresh.left = left;
        try {
            fresh.readAll();
        } catch (Fault f) {
            faultAt = f.place;
            return -10 - f.kind;
        }
        faultAt = NONE;
        p = fresh.p;
        g = fresh.g;
        w = fresh.w;
        days = fresh.days;
        world = fresh.world;
        past.clear();
        images[0] = null;
        images[1] = null;
        metList.clear();
        book.clear();
        return world.people.size();
    }

    private void readAll() {
        boolean any = false;
        while (!nextToken().text().isEmpty()) {
            Token word = nextToken();
            boolean isAgain = word.text().equals("s") && any || word.text().equals("h") && !days.isEmpty()
                    || word.text().equals("w") && world.people.size() == 4;
            if (!any && !word.text().equals("s")) {
                throw new Fault(1, word.place());
            }
            if (isAgain) {
                throw new Fault(3, word.place());
            }
            any = true;
            clause(word);
            need(";");
        }
    }

    private void clause(Token word) {
        if (take("s")) {
            p = number(1, 60);
            g = number(0, 40);
            w = number(1, 50);
        } else if (take("h")) {
            do {
                days.add(number(1, 60));
            } while (days.size() < 8 && take(","));
        } else if (take("w")) {
            Person one = new Person();
            one.from = number(0, houses() - 1);
            one.pace = number(1, 40);
            world.people.add(one);
        } else if (take("r")) {
            int place = nextToken().place();
            int k = number(0, days.size() - 1);
            if (world.ropes[k]) {
                throw new Fault(4, place);
            }
            world.ropes[k] = true;
        } else {
            throw new Fault(1, word.place());
        }
    }

    int fault() {
        return faultAt;
    }

    // ---- what is so

    private int houses() {
        return days.isEmpty() ? 0 : days.size() + 1;
    }

    private boolean noGap(int k) {
        return k < 0 || k >= days.size();
    }

    private boolean noHouse(int h) {
        return h < 0 || h >= houses();
    }

    private boolean noWalker(int i) {
        return i < 0 || i >= world.people.size();
    }

    private int yards(int k, int t, int growth) {
        int rest = t % (2 * p);
        return days.get(k) + growth * (rest <= p ? rest : 2 * p - rest) / 10;
    }

    private int nightHouses(int k, int t, int growth) {
        int n = yards(k, t, growth) / w - 1;
        return n < 0 ? 0 : n;
    }

    private int ropeSet() {
        int set = 0;
        for (int k = 0; k < 8; k++) {
            set += world.ropes[k] ? 1 << k : 0;
        }
        return set;
    }

    int told(int what) {
        int[] all = {p, g, w, houses(), world.people.size(), text.length(), world.minutes, ropeSet(), metList.size(),
            book.size(), past.size()};
        return what < 0 || what >= all.length ? OUTSIDE : all[what];
    }

    int gap(int k, int what) {
        if (noGap(k)) {
            return UNKNOWN;
        }
        int[] all = {days.get(k), yards(k, world.minutes, g), nightHouses(k, world.minutes, g), world.ropes[k] ? 1 : 0};
        return what < 0 || what >= all.length ? OUTSIDE : all[what];
    }

    private int where(World at, int i) {
        Person one = at.people.get(i);
        int below = one.to == null ? one.from : one.gap();
        int sum = 0;
        for (int k = 0; k < below; k++) {
            sum += yards(k, at.minutes, g);
        }
        if (one.to == null) {
            return sum;
        }
        int whole = yards(one.gap(), at.minutes, g);
        int gone = one.yards > whole ? whole : one.yards;
        return one.to > one.from ? sum + gone : sum + whole - gone;
    }

    int walker(int i, int what) {
        if (noWalker(i)) {
            return UNKNOWN;
        }
        Person one = world.people.get(i);
        int[] all = {one.to == null ? one.from : NONE, one.to == null ? NONE : one.gap(), one.to == null ? 0 : one.yards,
            one.sign + 1, one.pace, where(world, i)};
        return what < 0 || what >= all.length ? OUTSIDE : all[what];
    }

    // ---- deeds

    private void remember() {
        past.add(world.copy());
        if (past.size() > 30) {
            past.remove(0);
        }
    }

    int go(int i, int way) {
        if (noWalker(i)) {
            return UNKNOWN;
        }
        if (way < 0 || way > 2) {
            return OUTSIDE;
        }
        Person one = world.people.get(i);
        if (one.to != null && way == 1) {
            return NOT;
        }
        remember();
        if (one.to != null && one.sign != way - 1) {
            int other = one.to;
            one.to = one.from;
            one.from = other;
            one.yards = Math.max(0, yards(one.gap(), world.minutes, g) - one.yards);
        }
        one.sign = way - 1;
        return where(world, i);
    }

    int rope(int k, boolean is) {
        if (noGap(k)) {
            return UNKNOWN;
        }
        remember();
        boolean was = world.ropes[k];
        world.ropes[k] = is;
        return was ? 1 : 0;
    }

    private void step(World at) {
        for (Person one : at.people) {
            if (one.to == null && one.sign != 0) {
                if (noHouse(one.from + one.sign)) {
                    one.sign = 0;
                } else {
                    one.to = one.from + one.sign;
                    one.yards = 0;
                }
            }
            if (one.to != null) {
                one.yards += one.pace * (at.ropes[one.gap()] ? 2 : 1);
                if (one.yards >= yards(one.gap(), at.minutes, g)) {
                    one.from = one.to;
                    one.to = null;
                    one.yards = 0;
                }
            }
        }
        at.minutes++;
    }

    private int draw(int n) {
        seed = (seed * 1103515245L + 12345L) % 2147483648L;
        return (int) (seed / 65536 % n);
    }

    private int pass(int n, boolean byDraws) {
        if (n < 1 || n > 60) {
            return OUTSIDE;
        }
        if (p == 0) {
            return NOT;
        }
        if (world.minutes > 90000) {
            return FULL;
        }
        for (int i = 0; i < n; i++) {
            remember();
            for (Person one : world.people) {
                if (byDraws && one.to == null) {
                    int d = draw(4);
                    one.sign = d == 0 ? 1 : d == 1 ? -1 : d == 2 ? 0 : one.sign;
                }
            }
            step(world);
        }
        return world.minutes;
    }

    int minute(int n) {
        return pass(n, false);
    }

    int drift(int n) {
        return pass(n, true);
    }

    int undo(int n) {
        if (n < 1 || n > 30) {
            return OUTSIDE;
        }
        if (n > past.size()) {
            return NOT;
        }
        for (int i = 0; i < n; i++) {
            world = past.remove(past.size() - 1);
        }
        return world.minutes;
    }

    // ---- tried

    int apart(int i, int j) {
        return noWalker(i) || noWalker(j) || i == j ? UNKNOWN : Math.abs(where(world, i) - where(world, j));
    }

    int howLong(int t) {
        if (t < 0 || t > 120) {
            return OUTSIDE;
        }
        if (p == 0) {
            return NOT;
        }
        int sum = 0;
        for (int k = 0; k < days.size(); k++) {
            sum += yards(k, t, g);
        }
        return sum;
    }

    /** A walker of his own is sent, with the ropes that are given. */
    private int sent(int a, int b, int v, int t, boolean[] ropes, int most) {
        World at = new World();
        at.minutes = t;
        System.arraycopy(ropes, 0, at.ropes, 0, 8);
        Person one = new Person();
        one.from = a;
        one.pace = v;
        one.sign = b > a ? 1 : -1;
        at.people.add(one);
        for (int n = 0; n <= most; n++) {
            if (one.to == null && one.from == b) {
                return n;
            }
            step(at);
        }
        return NONE;
    }

    int takes(int a, int b, int v, int t) {
        if (noHouse(a) || noHouse(b) || a == b) {
            return UNKNOWN;
        }
        if (v < 1 || v > 40 || t < 0 || t > 119) {
            return OUTSIDE;
        }
        return sent(a, b, v, t, world.ropes, 300);
    }

    int setOut(int a, int b, int v, int u, int what) {
        if (noHouse(a) || noHouse(b) || a == b) {
            return UNKNOWN;
        }
        if (v < 1 || v > 40 || u < 0 || u > 119 || what < 0 || what > 2) {
            return OUTSIDE;
        }
        List<Integer> good = new ArrayList<>();
        for (int t = 0; t <= u; t++) {
            int n = sent(a, b, v, t, world.ropes, 300);
            if (n != NONE && t + n <= u) {
                good.add(t);
            }
        }
        return what == 2 ? good.size() : good.isEmpty() ? NONE : what == 0 ? good.get(0) : good.get(good.size() - 1);
    }

    int comes(int i, int h) {
        if (noWalker(i) || noHouse(h)) {
            return UNKNOWN;
        }
        World at = world.copy();
        for (int n = 0; n <= 300; n++) {
            if (at.people.get(i).to == null && at.people.get(i).from == h) {
                return n;
            }
            step(at);
        }
        return NONE;
    }

    int meets(int i, int j) {
        if (noWalker(i) || noWalker(j) || i == j) {
            return UNKNOWN;
        }
        World at = world.copy();
        boolean wasBelow = where(at, i) < where(at, j);
        for (int n = 0; n <= 300; n++) {
            int a = where(at, i);
            int b = where(at, j);
            if (a == b || a < b != wasBelow) {
                return n;
            }
            step(at);
        }
        return NONE;
    }

    int ropes(int a, int b, int v, int n) {
        if (noHouse(a) || noHouse(b) || a == b) {
            return UNKNOWN;
        }
        if (v < 1 || v > 40 || n < 0 || n > 300) {
            return OUTSIDE;
        }
        for (int size = 0; size <= days.size(); size++) {
            for (int set = 0; set < 1 << days.size(); set++) {
                if (Integer.bitCount(set) == size && (set & ropeSet()) == 0) {
                    boolean[] with = world.ropes.clone();
                    for (int k = 0; k < 8; k++) {
                        with[k] |= (set & 1 << k) != 0;
                    }
                    if (sent(a, b, v, world.minutes, with, n) != NONE) {
                        return set;
                    }
                }
            }
        }
        return NONE;
    }

    int doctor(int v, int what) {
        if (v < 1 || v > 40 || what < 0 || what > 1) {
            return OUTSIDE;
        }
        int house = NONE;
        int least = Integer.MAX_VALUE;
        for (int a = 0; a < houses(); a++) {
            int worst = 0;
            for (int b = 0; b < houses(); b++) {
                if (a != b) {
                    int n = sent(a, b, v, world.minutes, world.ropes, 300);
                    worst = n == NONE ? Integer.MAX_VALUE : Math.max(worst, n);
                    if (n == NONE) {
                        break;
                    }
                }
            }
            if (worst < least) {
                least = worst;
                house = a;
            }
        }
        return house == NONE ? NONE : what == 0 ? house : least;
    }

    int beat(int v) {
        if (v < 1 || v > 40) {
            return OUTSIDE;
        }
        if (days.isEmpty()) {
            return NOT;
        }
        World at = world.copy();
        at.people.clear();
        Person one = new Person();
        one.pace = v;
        one.sign = 1;
        at.people.add(one);
        for (int n = 0; n <= 600; n++) {
            if (one.to == null && one.from == days.size()) {
                one.sign = -1;
            }
            if (one.to == null && one.from == 0 && one.sign == -1) {
                return n;
            }
            step(at);
        }
        return NONE;
    }

    int rent(int n) {
        if (n < 0 || n > 120) {
            return OUTSIDE;
        }
        if (p == 0) {
            return NOT;
        }
        int sum = 0;
        for (int t = world.minutes; t < world.minutes + n; t++) {
            for (int k = 0; k < days.size(); k++) {
                sum += nightHouses(k, t, g);
            }
        }
        return sum;
    }

    int lamp(int n, int q) {
        if (n < 0 || n > 60 || q < 0 || q > 1000) {
            return OUTSIDE;
        }
        long odds = 1000000000L;
        for (int t = 0; t < n; t++) {
            for (int k = 0; k < days.size(); k++) {
                odds = odds * (1000 - q) / 1000;
            }
        }
        return (int) odds;
    }

    // ---- what was met

    int met(int k, int n) {
        if (noGap(k)) {
            return UNKNOWN;
        }
        if (n < 0 || n > 999) {
            return OUTSIDE;
        }
        if (metList.size() == 6) {
            return FULL;
        }
        metList.add(new Pair(k, n));
        return metList.size();
    }

    private List<Integer> fitting(int growth) {
        List<Integer> good = new ArrayList<>();
        for (int t = 0; t < 2 * p; t++) {
            boolean all = true;
            for (Pair m : metList) {
                all &= nightHouses(m.a(), t, growth) == m.b();
            }
            if (all) {
                good.add(t);
            }
        }
        return good;
    }

    int fits(int what) {
        if (what < 0 || what > 2) {
            return OUTSIDE;
        }
        List<Integer> good = fitting(g);
        return what == 0 ? good.size() : good.isEmpty() ? NONE : what == 1 ? good.get(0) : good.get(good.size() - 1);
    }

    int growths() {
        int set = 0;
        for (int growth = 0; growth < 30; growth++) {
            set += fitting(growth).isEmpty() ? 0 : 1 << growth;
        }
        return set;
    }

    int lookAt() {
        List<Integer> good = fitting(g);
        int best = NONE;
        int least = good.size();
        for (int k = 0; k < days.size(); k++) {
            int greatest = 0;
            for (int t : good) {
                int alike = 0;
                for (int u : good) {
                    alike += nightHouses(k, t, g) == nightHouses(k, u, g) ? 1 : 0;
                }
                greatest = Math.max(greatest, alike);
            }
            if (greatest < least) {
                least = greatest;
                best = k;
            }
        }
        return best;
    }

    int write(int i, int h) {
        if (noWalker(i) || noHouse(h)) {
            return UNKNOWN;
        }
        if (book.size() == 20) {
            return FULL;
        }
        book.add(new Pair(i, h));
        return book.size();
    }

    int judge() {
        for (int i = 0; i < book.size(); i++) {
            Person one = world.people.get(book.get(i).a());
            if (one.to != null || one.from != book.get(i).b()) {
                return i;
            }
        }
        return NONE;
    }

    int tear() {
        int both = metList.size() + book.size();
        metList.clear();
        book.clear();
        return both;
    }

    // ---- images

    int seed(int v) {
        if (v < 0) {
            return OUTSIDE;
        }
        int was = (int) seed;
        seed = v;
        return was;
    }

    int keep(int i) {
        if (i < 0 || i > 1) {
            return UNKNOWN;
        }
        images[i] = world.copy();
        imageSeeds[i] = seed;
        past.clear();
        return 1;
    }

    int goBack(int i) {
        if (i < 0 || i > 1) {
            return UNKNOWN;
        }
        if (images[i] == null) {
            return NOT;
        }
        world = images[i].copy();
        seed = imageSeeds[i];
        past.clear();
        return 1;
    }
}
