/**
 * A street that is longer by night. The document (DOC.md) tells what every call answers; words in
 * capitals in the comments here are the document's own.
 */
public final class NightStreet {
    public static final int NONE = -1, UNKNOWN = -1000000001, OUTSIDE = -1000000002, NOT = -1000000003, FULL = -1000000004;

    private static final int BILLION = 1000000000;
    private static final int MOST_LETTER = 255;
    private static final int MOST_PACE = 40;
    private static final int MOST_MINUTES = 90000;
    private static final int MOST_AT_ONCE = 60;
    private static final int MOST_TRIED = 300;
    private static final int MOST_BEAT = 600;
    private static final int MOST_ASKED_MINUTE = 119;
    private static final int MOST_LONG_MINUTE = 120;
    private static final int MOST_RENT = 120;
    private static final int MOST_LAMP = 60;
    private static final int THOUSAND = 1000;
    private static final int MOST_MET_HOUSES = 999;
    private static final int DOWN = 0, STILL = 1, UP = 2;

    private Plan plan = new Plan();
    private Plan draft = new Plan();
    private final Reader reader = new Reader();
    private final Scene now = new Scene();
    private final Scene trial = new Scene();
    private final Past past = new Past();
    private final Images images = new Images();
    private final Pairs metList = new Pairs(6);
    private final Pairs book = new Pairs(20);
    private final Guesses guesses = new Guesses();
    private final Draws draws = new Draws();
    private final Span span = new Span();

    public NightStreet() {
    }

    // ---- the street

    public int feed(int letter) {
        if (!isWithin(letter, 0, MOST_LETTER)) {
            return OUTSIDE;
        }
        return reader.append(letter) ? reader.length() : FULL;
    }

    public int street() {
        draft.clear();
        int kind = reader.readInto(draft);
        reader.empty();
        if (kind != Reader.FAULTLESS) {
            return -10 - kind;
        }
        Plan old = plan;
        plan = draft;
        draft = old;
        now.begin(plan);
        past.forget();
        images.forget();
        metList.clear();
        book.clear();
        return plan.walkerCount();
    }

    public int fault() {
        return reader.faultPlace();
    }

    public int told(int what) {
        switch (what) {
            case 0: return plan.rise();
            case 1: return plan.growth();
            case 2: return plan.width();
            case 3: return plan.houseCount();
            case 4: return plan.walkerCount();
            case 5: return reader.length();
            case 6: return now.clock();
            case 7: return now.ropeSet();
            case 8: return metList.size();
            case 9: return book.size();
            case 10: return past.size();
            default: return OUTSIDE;
        }
    }

    public int gap(int k, int what) {
        if (!plan.hasGap(k)) {
            return UNKNOWN;
        }
        switch (what) {
            case 0: return plan.dayYards(k);
            case 1: return plan.yardsAt(k, now.clock());
            case 2: return plan.nightHousesAt(k, now.clock());
            case 3: return now.hasRope(k) ? 1 : 0;
            default: return OUTSIDE;
        }
    }

    public int walker(int w, int what) {
        if (!plan.hasWalker(w)) {
            return UNKNOWN;
        }
        switch (what) {
            case 0: return now.houseOf(w);
            case 1: return now.gapOf(w);
            case 2: return now.yardsOf(w);
            case 3: return now.wayOf(w);
            case 4: return plan.paceOf(w);
            case 5: return now.placeOf(plan, w);
            default: return OUTSIDE;
        }
    }

    // ---- deeds

    public int go(int w, int way) {
        if (!plan.hasWalker(w)) {
            return UNKNOWN;
        }
        if (!isWithin(way, DOWN, UP)) {
            return OUTSIDE;
        }
        if (now.isInGap(w) && way == STILL) {
            return NOT;
        }
        past.remember(now);
        now.direct(plan, w, way);
        return now.placeOf(plan, w);
    }

    public int rope(int k, boolean is) {
        if (!plan.hasGap(k)) {
            return UNKNOWN;
        }
        int before = now.hasRope(k) ? 1 : 0;
        past.remember(now);
        now.layRope(k, is);
        return before;
    }

    public int minute(int n) {
        int refusal = refusalOfMinutes(n);
        if (refusal != 0) {
            return refusal;
        }
        for (int i = 0; i < n; i++) {
            past.remember(now);
            now.passMinute(plan);
        }
        return now.clock();
    }

    public int drift(int n) {
        int refusal = refusalOfMinutes(n);
        if (refusal != 0) {
            return refusal;
        }
        for (int i = 0; i < n; i++) {
            past.remember(now);
            directByDraws();
            now.passMinute(plan);
        }
        return now.clock();
    }

    public int undo(int n) {
        if (!isWithin(n, 1, Past.MOST)) {
            return OUTSIDE;
        }
        if (n > past.size()) {
            return NOT;
        }
        past.recall(n, now);
        return now.clock();
    }

    // ---- tried

    public int apart(int w, int z) {
        if (!areTwoWalkers(w, z)) {
            return UNKNOWN;
        }
        return Math.abs(now.placeOf(plan, w) - now.placeOf(plan, z));
    }

    public int howLong(int t) {
        if (!isWithin(t, 0, MOST_LONG_MINUTE)) {
            return OUTSIDE;
        }
        return plan.isTold() ? plan.yardsBelow(plan.gapCount(), t) : NOT;
    }

    public int takes(int a, int b, int v, int t) {
        if (!areTwoHouses(a, b)) {
            return UNKNOWN;
        }
        if (!isPace(v) || !isWithin(t, 0, MOST_ASKED_MINUTE)) {
            return OUTSIDE;
        }
        return plan.walkTime(a, b, v, t, now.ropeSet(), MOST_TRIED);
    }

    public int setOut(int a, int b, int v, int u, int what) {
        if (!areTwoHouses(a, b)) {
            return UNKNOWN;
        }
        if (!isPace(v) || !isWithin(u, 0, MOST_ASKED_MINUTE) || !isWithin(what, 0, 2)) {
            return OUTSIDE;
        }
        span.clear();
        for (int t = 0; t <= u; t++) {
            if (plan.walkTime(a, b, v, t, now.ropeSet(), u - t) != NONE) {
                span.note(t);
            }
        }
        return what == 0 ? span.first() : what == 1 ? span.last() : span.size();
    }

    public int comes(int w, int h) {
        if (!plan.hasWalker(w) || !plan.hasHouse(h)) {
            return UNKNOWN;
        }
        trial.copyFrom(now);
        for (int minutes = 0; minutes <= MOST_TRIED; minutes++) {
            if (trial.houseOf(w) == h) {
                return minutes;
            }
            trial.passMinute(plan);
        }
        return NONE;
    }

    public int meets(int w, int z) {
        if (!areTwoWalkers(w, z)) {
            return UNKNOWN;
        }
        trial.copyFrom(now);
        int sideAtFirst = sideInTrial(w, z);
        for (int minutes = 0; minutes <= MOST_TRIED; minutes++) {
            int side = sideInTrial(w, z);
            if (side == 0 || side != sideAtFirst) {
                return minutes;
            }
            trial.passMinute(plan);
        }
        return NONE;
    }

    public int ropes(int a, int b, int v, int n) {
        if (!areTwoHouses(a, b)) {
            return UNKNOWN;
        }
        if (!isPace(v) || !isWithin(n, 0, MOST_TRIED)) {
            return OUTSIDE;
        }
        // Only GAPS on the way that have no ROPE yet can help, so no other SET can be the fewest.
        int useful = plan.gapsBetween(a, b) & ~now.ropeSet();
        int best = NONE;
        for (int more = 0; more < (1 << Plan.MOST_GAPS); more++) {
            boolean isFewer = best == NONE || Integer.bitCount(more) < Integer.bitCount(best);
            if (isFewer && (more & ~useful) == 0
                    && plan.walkTime(a, b, v, now.clock(), now.ropeSet() | more, n) != NONE) {
                best = more;
            }
        }
        return best;
    }

    public int doctor(int v, int what) {
        if (!isPace(v) || !isWithin(what, 0, 1)) {
            return OUTSIDE;
        }
        int best = NONE;
        int bestTime = NONE;
        for (int h = 0; h < plan.houseCount(); h++) {
            int time = farthestTime(h, v);
            if (time != NONE && (bestTime == NONE || time < bestTime)) {
                best = h;
                bestTime = time;
            }
        }
        return what == 0 ? best : bestTime;
    }

    public int beat(int v) {
        if (!isPace(v)) {
            return OUTSIDE;
        }
        if (plan.houseCount() == 0) {
            return NOT;
        }
        int last = plan.houseCount() - 1;
        int there = plan.walkTime(0, last, v, now.clock(), now.ropeSet(), MOST_BEAT);
        if (there == NONE) {
            return NONE;
        }
        int back = plan.walkTime(last, 0, v, now.clock() + there, now.ropeSet(), MOST_BEAT - there);
        return back == NONE ? NONE : there + back;
    }

    public int rent(int n) {
        if (!isWithin(n, 0, MOST_RENT)) {
            return OUTSIDE;
        }
        if (!plan.isTold()) {
            return NOT;
        }
        int sum = 0;
        for (int i = 0; i < n; i++) {
            for (int k = 0; k < plan.gapCount(); k++) {
                sum += plan.nightHousesAt(k, now.clock() + i);
            }
        }
        return sum;
    }

    public int lamp(int n, int q) {
        if (!isWithin(n, 0, MOST_LAMP) || !isWithin(q, 0, THOUSAND)) {
            return OUTSIDE;
        }
        long odds = BILLION;
        for (int i = 0; i < n * plan.gapCount(); i++) {
            odds = odds * (THOUSAND - q) / THOUSAND;
        }
        return (int) odds;
    }

    // ---- what was met

    public int met(int k, int n) {
        if (!plan.hasGap(k)) {
            return UNKNOWN;
        }
        if (!isWithin(n, 0, MOST_MET_HOUSES)) {
            return OUTSIDE;
        }
        return metList.append(k, n) ? metList.size() : FULL;
    }

    public int fits(int what) {
        if (!isWithin(what, 0, 2)) {
            return OUTSIDE;
        }
        guesses.noteFits(plan, metList, span);
        return what == 0 ? span.size() : what == 1 ? span.first() : span.last();
    }

    public int growths() {
        return guesses.possibleGrowths(plan, metList);
    }

    public int lookAt() {
        guesses.noteFits(plan, metList, span);
        return guesses.bestGap(plan, metList, span.size());
    }

    public int write(int w, int h) {
        if (!plan.hasWalker(w) || !plan.hasHouse(h)) {
            return UNKNOWN;
        }
        return book.append(w, h) ? book.size() : FULL;
    }

    public int judge() {
        for (int i = 0; i < book.size(); i++) {
            if (now.houseOf(book.firstOf(i)) != book.secondOf(i)) {
                return i;
            }
        }
        return NONE;
    }

    public int tear() {
        int both = metList.size() + book.size();
        metList.clear();
        book.clear();
        return both;
    }

    // ---- images

    public int seed(int v) {
        if (v < 0) {
            return OUTSIDE;
        }
        int before = draws.current();
        draws.startFrom(v);
        return before;
    }

    public int keep(int i) {
        if (!images.hasPlace(i)) {
            return UNKNOWN;
        }
        images.store(i, now, draws.current());
        past.forget();
        return 1;
    }

    public int goBack(int i) {
        if (!images.hasPlace(i)) {
            return UNKNOWN;
        }
        if (!images.isStored(i)) {
            return NOT;
        }
        images.restore(i, now);
        draws.startFrom(images.seedOf(i));
        past.forget();
        return 1;
    }

    // ---- what several calls share

    private static boolean isWithin(int value, int least, int most) {
        return value >= least && value <= most;
    }

    private static boolean isPace(int v) {
        return isWithin(v, 1, MOST_PACE);
    }

    private boolean areTwoHouses(int a, int b) {
        return plan.hasHouse(a) && plan.hasHouse(b) && a != b;
    }

    private boolean areTwoWalkers(int w, int z) {
        return plan.hasWalker(w) && plan.hasWalker(z) && w != z;
    }

    /** 0: n MINUTES may pass. */
    private int refusalOfMinutes(int n) {
        if (!isWithin(n, 1, MOST_AT_ONCE)) {
            return OUTSIDE;
        }
        if (!plan.isTold()) {
            return NOT;
        }
        return now.clock() > MOST_MINUTES ? FULL : 0;
    }

    private void directByDraws() {
        for (int w = 0; w < plan.walkerCount(); w++) {
            if (!now.isInGap(w)) {
                int draw = draws.next(4);
                if (draw == 0) {
                    now.direct(plan, w, UP);
                } else if (draw == 1) {
                    now.direct(plan, w, DOWN);
                } else if (draw == 2) {
                    now.direct(plan, w, STILL);
                }
            }
        }
    }

    /** Less than 0, 0 or more: w is below z, with him, above him. */
    private int sideInTrial(int w, int z) {
        return Integer.compare(trial.placeOf(plan, w), trial.placeOf(plan, z));
    }

    /** A way to either end passes all other HOUSES on that side, so no other one can take longer. */
    private int farthestTime(int h, int v) {
        int last = plan.houseCount() - 1;
        int below = plan.walkTime(h, 0, v, now.clock(), now.ropeSet(), MOST_TRIED);
        int above = plan.walkTime(h, last, v, now.clock(), now.ropeSet(), MOST_TRIED);
        return below == NONE || above == NONE ? NONE : Math.max(below, above);
    }

    /** What the text tells and no deed changes; without a STREET all of it is 0. */
    private static final class Plan {
        static final int MOST_GAPS = 8;
        static final int MOST_WALKERS = 4;

        private int riseMinutes;
        private int growthYards;
        private int houseWidth;
        private int gaps;
        private int walkers;
        private int firstRopes;
        private final int[] days = new int[MOST_GAPS];
        private final int[] homes = new int[MOST_WALKERS];
        private final int[] paces = new int[MOST_WALKERS];

        void clear() {
            riseMinutes = 0;
            growthYards = 0;
            houseWidth = 0;
            gaps = 0;
            walkers = 0;
            firstRopes = 0;
        }

        void tellNight(int rise, int growth, int width) {
            riseMinutes = rise;
            growthYards = growth;
            houseWidth = width;
        }

        void addGap(int day) {
            if (gaps >= 0 && gaps < days.length) {
                days[gaps] = day;
                gaps++;
            }
        }

        void addWalker(int home, int pace) {
            if (walkers >= 0 && walkers < homes.length && walkers < paces.length) {
                homes[walkers] = home;
                paces[walkers] = pace;
                walkers++;
            }
        }

        void addRope(int k) {
            firstRopes |= 1 << k;
        }

        boolean isTold() {
            return riseMinutes > 0;
        }

        int rise() {
            return riseMinutes;
        }

        int growth() {
            return growthYards;
        }

        int width() {
            return houseWidth;
        }

        int gapCount() {
            return gaps;
        }

        int houseCount() {
            return gaps == 0 ? 0 : gaps + 1;
        }

        int walkerCount() {
            return walkers;
        }

        int ropesAtFirst() {
            return firstRopes;
        }

        int nightLength() {
            return 2 * riseMinutes;
        }

        boolean hasGap(int k) {
            return k >= 0 && k < gaps;
        }

        boolean hasHouse(int h) {
            return h >= 0 && h < houseCount();
        }

        boolean hasWalker(int w) {
            return w >= 0 && w < walkers;
        }

        int dayYards(int k) {
            return k >= 0 && k < gaps && k < days.length ? days[k] : 0;
        }

        int homeOf(int w) {
            return w >= 0 && w < walkers && w < homes.length ? homes[w] : 0;
        }

        int paceOf(int w) {
            return w >= 0 && w < walkers && w < paces.length ? paces[w] : 0;
        }

        int yardsAt(int k, int t) {
            return yardsGrowing(k, t, growthYards);
        }

        int nightHousesAt(int k, int t) {
            return nightHousesGrowing(k, t, growthYards);
        }

        /** NIGHT HOUSES of a GAP at t if the night grew by this many yards in ten minutes. */
        int nightHousesGrowing(int k, int t, int growth) {
            if (houseWidth <= 0) {
                return 0;
            }
            return Math.max(0, yardsGrowing(k, t, growth) / houseWidth - 1);
        }

        private int yardsGrowing(int k, int t, int growth) {
            int night = nightLength();
            if (night <= 0) {
                return 0;
            }
            int inNight = t % night;
            return dayYards(k) + growth * Math.min(inNight, night - inNight) / 10;
        }

        /** YARDS of all GAPS from HOUSE 0 to a HOUSE. */
        int yardsBelow(int house, int t) {
            int sum = 0;
            for (int k = 0; k < gaps && k < house; k++) {
                sum += yardsAt(k, t);
            }
            return sum;
        }

        /** The SET of GAPS that lie between two HOUSES. */
        int gapsBetween(int a, int b) {
            int lesser = Math.min(a, b);
            int greater = Math.max(a, b);
            int set = 0;
            for (int k = 0; k < gaps; k++) {
                if (k >= lesser && k < greater) {
                    set |= 1 << k;
                }
            }
            return set;
        }

        /** MINUTES from HOUSE a to HOUSE b, setting out at minute t; NONE if they are more than most. */
        int walkTime(int a, int b, int pace, int t, int ropeSet, int most) {
            int house = a;
            int yards = 0;
            int minutes = 0;
            while (house != b && minutes < most) {
                int k = house < b ? house : house - 1;
                yards += (ropeSet >> k & 1) == 1 ? 2 * pace : pace;
                if (yards >= yardsAt(k, t + minutes)) {
                    house = house < b ? house + 1 : house - 1;
                    yards = 0;
                }
                minutes++;
            }
            return house == b ? minutes : NONE;
        }
    }

    /** THE TEXT, and how it is read, up to its first FAULT. */
    private static final class Reader {
        static final int FAULTLESS = 0;
        private static final int MISPLACED = 1, OUT_OF_BOUNDS = 2, WORD_AGAIN = 3, ROPE_AGAIN = 4;
        private static final int MOST_LETTERS = 200;
        private static final int MOST_FIGURES = 3;
        private static final int MOST_RISE = 60, MOST_GROWTH = 40, MOST_WIDTH = 50, MOST_DAY = 60;
        private static final char BLANK = ' ';

        private final char[] letters = new char[MOST_LETTERS];
        private int size;
        private int at;
        private int faultKind = FAULTLESS;
        private int faultAt = NONE;

        boolean append(int letter) {
            if (size < 0 || size >= letters.length) {
                return false;
            }
            letters[size] = (char) letter;
            size++;
            return true;
        }

        int length() {
            return size;
        }

        void empty() {
            size = 0;
        }

        int faultPlace() {
            return faultAt;
        }

        /** The number of the FAULT, or FAULTLESS. */
        int readInto(Plan plan) {
            at = 0;
            faultKind = FAULTLESS;
            faultAt = NONE;
            skipBlanks();
            // A clause has one letter at least, so there are never more of them than letters.
            for (int clauses = 0; clauses < MOST_LETTERS && at < size && !hasFault(); clauses++) {
                readClause(plan);
                skipBlanks();
            }
            return faultKind;
        }

        private void readClause(Plan plan) {
            int word = letter();
            if (!plan.isTold() && word != 's') {
                blame(MISPLACED, at);
                return;
            }
            switch (word) {
                case 's':
                    readNight(plan);
                    break;
                case 'h':
                    readHouses(plan);
                    break;
                case 'w':
                    readWalker(plan);
                    break;
                case 'r':
                    readRope(plan);
                    break;
                default:
                    blame(MISPLACED, at);
                    break;
            }
        }

        private void readNight(Plan plan) {
            if (plan.isTold()) {
                blame(WORD_AGAIN, at);
                return;
            }
            at++;
            int rise = readNumber(1, MOST_RISE);
            int growth = readNumber(0, MOST_GROWTH);
            int width = readNumber(1, MOST_WIDTH);
            readEnd();
            if (!hasFault()) {
                plan.tellNight(rise, growth, width);
            }
        }

        private void readHouses(Plan plan) {
            if (plan.gapCount() > 0) {
                blame(WORD_AGAIN, at);
                return;
            }
            at++;
            plan.addGap(readNumber(1, MOST_DAY));
            skipBlanks();
            // The bound leaves the comma of a ninth D for readEnd to find fault with.
            for (int count = 1; count < Plan.MOST_GAPS && letter() == ',' && !hasFault(); count++) {
                at++;
                plan.addGap(readNumber(1, MOST_DAY));
                skipBlanks();
            }
            readEnd();
        }

        private void readWalker(Plan plan) {
            if (plan.walkerCount() >= Plan.MOST_WALKERS) {
                blame(WORD_AGAIN, at);
                return;
            }
            at++;
            int home = readNumber(0, plan.houseCount() - 1);
            int pace = readNumber(1, MOST_PACE);
            readEnd();
            plan.addWalker(home, pace);
        }

        private void readRope(Plan plan) {
            at++;
            skipBlanks();
            int numberAt = at;
            int k = readNumber(0, plan.gapCount() - 1);
            if (!hasFault() && (plan.ropesAtFirst() >> k & 1) == 1) {
                blame(ROPE_AGAIN, numberAt);
            }
            readEnd();
            if (!hasFault()) {
                plan.addRope(k);
            }
        }

        private void readEnd() {
            skipBlanks();
            if (letter() == ';') {
                at++;
            } else {
                blame(MISPLACED, at);
            }
        }

        /** What it answers behind a FAULT is of no use to anybody. */
        private int readNumber(int least, int most) {
            skipBlanks();
            int start = at;
            int value = 0;
            while (at < size && isFigure(letter())) {
                // Further figures are a FAULT anyway, and could go beyond an int.
                value = at - start < MOST_FIGURES ? value * 10 + letter() - '0' : value;
                at++;
            }
            if (at == start) {
                blame(MISPLACED, start);
            } else if (at - start > MOST_FIGURES || value < least || value > most) {
                blame(OUT_OF_BOUNDS, start);
            }
            return value;
        }

        private static boolean isFigure(int letter) {
            return letter >= '0' && letter <= '9';
        }

        private void skipBlanks() {
            while (at < size && letter() == BLANK) {
                at++;
            }
        }

        /** The letter that is to be read, NONE at the end. */
        private int letter() {
            return at >= 0 && at < size && at < letters.length ? letters[at] : NONE;
        }

        private boolean hasFault() {
            return faultKind != FAULTLESS;
        }

        /** Reading goes on behind a FAULT here and there; only the first one counts. */
        private void blame(int kind, int place) {
            if (!hasFault()) {
                faultKind = kind;
                faultAt = place;
            }
        }
    }

    /** All that deeds change and undo() brings back: MINUTES, ROPES, WALKERS; in one row, so that it is copied at once. */
    private static final class Scene {
        private static final int CLOCK = 0, ROPE_SET = 1, HEAD = 2;
        private static final int HOUSE = 0, GAP = 1, YARDS = 2, WAY = 3, PARTS = 4;
        static final int SIZE = HEAD + PARTS * Plan.MOST_WALKERS;

        private final int[] cells = new int[SIZE];

        void begin(Plan plan) {
            cells[CLOCK] = 0;
            cells[ROPE_SET] = plan.ropesAtFirst();
            for (int w = 0; w < Plan.MOST_WALKERS; w++) {
                stand(w, plan.homeOf(w));
                set(w, WAY, STILL);
            }
        }

        void copyFrom(Scene other) {
            System.arraycopy(other.cells, 0, cells, 0, SIZE);
        }

        void writeTo(int[] row, int start) {
            if (row != null && start >= 0 && start <= row.length - SIZE) {
                System.arraycopy(cells, 0, row, start, SIZE);
            }
        }

        void readFrom(int[] row, int start) {
            if (row != null && start >= 0 && start <= row.length - SIZE) {
                System.arraycopy(row, start, cells, 0, SIZE);
            }
        }

        int clock() {
            return cells[CLOCK];
        }

        int ropeSet() {
            return cells[ROPE_SET];
        }

        boolean hasRope(int k) {
            return (cells[ROPE_SET] >> k & 1) == 1;
        }

        void layRope(int k, boolean is) {
            if (is) {
                cells[ROPE_SET] |= 1 << k;
            } else {
                cells[ROPE_SET] &= ~(1 << k);
            }
        }

        /** NONE: he is IN a GAP. */
        int houseOf(int w) {
            return get(w, HOUSE);
        }

        /** NONE: he STANDS. */
        int gapOf(int w) {
            return get(w, GAP);
        }

        int yardsOf(int w) {
            return get(w, YARDS);
        }

        int wayOf(int w) {
            return get(w, WAY);
        }

        boolean isInGap(int w) {
            return get(w, GAP) != NONE;
        }

        /** WHERE he is in yards. */
        int placeOf(Plan plan, int w) {
            if (!isInGap(w)) {
                return plan.yardsBelow(houseOf(w), clock());
            }
            int k = gapOf(w);
            int whole = plan.yardsAt(k, clock());
            int gone = Math.min(yardsOf(w), whole);
            return plan.yardsBelow(k, clock()) + (wayOf(w) == UP ? gone : whole - gone);
        }

        void direct(Plan plan, int w, int way) {
            if (isInGap(w) && way != wayOf(w)) {
                set(w, YARDS, Math.max(0, plan.yardsAt(gapOf(w), clock()) - yardsOf(w)));
            }
            set(w, WAY, way);
        }

        void passMinute(Plan plan) {
            for (int w = 0; w < plan.walkerCount(); w++) {
                leaveHouse(plan, w);
                stride(plan, w);
            }
            cells[CLOCK]++;
        }

        private void leaveHouse(Plan plan, int w) {
            if (isInGap(w) || wayOf(w) == STILL) {
                return;
            }
            int k = wayOf(w) == UP ? houseOf(w) : houseOf(w) - 1;
            if (plan.hasGap(k)) {
                set(w, HOUSE, NONE);
                set(w, GAP, k);
                set(w, YARDS, 0);
            } else {
                set(w, WAY, STILL);
            }
        }

        private void stride(Plan plan, int w) {
            if (!isInGap(w)) {
                return;
            }
            int k = gapOf(w);
            int pace = plan.paceOf(w);
            int yards = yardsOf(w) + (hasRope(k) ? 2 * pace : pace);
            if (yards >= plan.yardsAt(k, clock())) {
                stand(w, wayOf(w) == UP ? k + 1 : k);
            } else {
                set(w, YARDS, yards);
            }
        }

        private void stand(int w, int house) {
            set(w, HOUSE, house);
            set(w, GAP, NONE);
            set(w, YARDS, 0);
        }

        private int get(int w, int part) {
            int i = HEAD + w * PARTS + part;
            return i >= 0 && i < cells.length ? cells[i] : NONE;
        }

        private void set(int w, int part, int value) {
            int i = HEAD + w * PARTS + part;
            if (i >= 0 && i < cells.length) {
                cells[i] = value;
            }
        }
    }

    /** What can be undone: a ring, in which the newest takes the place of the oldest. */
    private static final class Past {
        static final int MOST = 30;

        private final int[] rows = new int[MOST * Scene.SIZE];
        private int oldest;
        private int count;

        int size() {
            return count;
        }

        void forget() {
            oldest = 0;
            count = 0;
        }

        void remember(Scene scene) {
            scene.writeTo(rows, startOf(count));
            if (count < MOST) {
                count++;
            } else {
                oldest = (oldest + 1) % MOST;
            }
        }

        void recall(int n, Scene scene) {
            if (n >= 1 && n <= count) {
                count -= n;
                scene.readFrom(rows, startOf(count));
            }
        }

        private int startOf(int age) {
            return (oldest + age) % MOST * Scene.SIZE;
        }
    }

    /** IMAGES to go on from; unlike what can be undone they keep THE SEED too. */
    private static final class Images {
        private static final int MOST = 2;

        private final int[] rows = new int[MOST * Scene.SIZE];
        private final int[] seeds = new int[MOST];
        private final boolean[] stored = new boolean[MOST];

        boolean hasPlace(int i) {
            return i >= 0 && i < MOST;
        }

        boolean isStored(int i) {
            return hasPlace(i) && i < stored.length && stored[i];
        }

        int seedOf(int i) {
            return hasPlace(i) && i < seeds.length ? seeds[i] : 0;
        }

        void forget() {
            for (int i = 0; i < stored.length; i++) {
                stored[i] = false;
            }
        }

        void store(int i, Scene scene, int seedNow) {
            if (hasPlace(i) && i < seeds.length && i < stored.length) {
                scene.writeTo(rows, i * Scene.SIZE);
                seeds[i] = seedNow;
                stored[i] = true;
            }
        }

        void restore(int i, Scene scene) {
            if (isStored(i)) {
                scene.readFrom(rows, i * Scene.SIZE);
            }
        }
    }

    /** A list of pairs of numbers that has a most: what was MET, THE BOOK. */
    private static final class Pairs {
        private final int[] firsts;
        private final int[] seconds;
        private int count;

        Pairs(int most) {
            int length = Math.max(0, most);
            firsts = new int[length];
            seconds = new int[length];
        }

        /** false: it is full. */
        boolean append(int first, int second) {
            if (count < 0 || count >= firsts.length || count >= seconds.length) {
                return false;
            }
            firsts[count] = first;
            seconds[count] = second;
            count++;
            return true;
        }

        int size() {
            return count;
        }

        int firstOf(int i) {
            return i >= 0 && i < count && i < firsts.length ? firsts[i] : NONE;
        }

        int secondOf(int i) {
            return i >= 0 && i < count && i < seconds.length ? seconds[i] : NONE;
        }

        void clear() {
            count = 0;
        }
    }

    /** What the NIGHT HOUSES that were MET say of the minute, and of how the night grows. */
    private static final class Guesses {
        private static final int GROWTHS = 30;
        // A GAP has 60 + 40 * 60 / 10 YARDS at most, so it has fewer NIGHT HOUSES than this.
        private static final int MOST_NIGHT_HOUSES = 300;

        private final int[] tally = new int[MOST_NIGHT_HOUSES];

        /** Whether all that was MET would be so at minute t. */
        private boolean agree(Plan plan, Pairs list, int t, int growth) {
            for (int i = 0; i < list.size(); i++) {
                if (plan.nightHousesGrowing(list.firstOf(i), t, growth) != list.secondOf(i)) {
                    return false;
                }
            }
            return true;
        }

        int possibleGrowths(Plan plan, Pairs list) {
            int set = 0;
            for (int growth = 0; growth < GROWTHS; growth++) {
                if (agreeAtSomeMinute(plan, list, growth)) {
                    set |= 1 << growth;
                }
            }
            return set;
        }

        private boolean agreeAtSomeMinute(Plan plan, Pairs list, int growth) {
            for (int t = 0; t < plan.nightLength(); t++) {
                if (agree(plan, list, t, growth)) {
                    return true;
                }
            }
            return false;
        }

        /** All minutes of the NIGHT at which what was MET would be so. */
        void noteFits(Plan plan, Pairs list, Span span) {
            span.clear();
            for (int t = 0; t < plan.nightLength(); t++) {
                if (agree(plan, list, t, plan.growth())) {
                    span.note(t);
                }
            }
        }

        /** A GAP whose greatest part is as great as all that fits parts nothing: so it must be below. */
        int bestGap(Plan plan, Pairs list, int fitting) {
            int best = NONE;
            int bestPart = fitting;
            for (int k = 0; k < plan.gapCount(); k++) {
                int part = greatestPart(plan, list, k);
                if (part < bestPart) {
                    best = k;
                    bestPart = part;
                }
            }
            return best;
        }

        /** How many of the minutes that fit have the same NIGHT HOUSES in a GAP, at most. */
        private int greatestPart(Plan plan, Pairs list, int k) {
            for (int i = 0; i < tally.length; i++) {
                tally[i] = 0;
            }
            int greatest = 0;
            for (int t = 0; t < plan.nightLength(); t++) {
                int houses = plan.nightHousesAt(k, t);
                if (houses >= 0 && houses < tally.length && agree(plan, list, t, plan.growth())) {
                    tally[houses]++;
                    greatest = Math.max(greatest, tally[houses]);
                }
            }
            return greatest;
        }
    }

    /** The minutes that were found good, in the order in which they were noted. */
    private static final class Span {
        private int earliest = NONE;
        private int latest = NONE;
        private int count;

        void clear() {
            earliest = NONE;
            latest = NONE;
            count = 0;
        }

        void note(int t) {
            earliest = count == 0 ? t : earliest;
            latest = t;
            count++;
        }

        int first() {
            return earliest;
        }

        int last() {
            return latest;
        }

        int size() {
            return count;
        }
    }

    /** THE SEED and what is drawn by it. */
    private static final class Draws {
        private static final long FACTOR = 1103515245L, ADDEND = 12345L, LOW_31_BITS = 0x7fffffffL;
        private static final int CUT = 65536;

        private int state;

        int current() {
            return state;
        }

        void startFrom(int value) {
            state = value;
        }

        int next(int n) {
            state = (int) (state * FACTOR + ADDEND & LOW_31_BITS);
            return n > 0 ? state / CUT % n : 0;
        }
    }
}
