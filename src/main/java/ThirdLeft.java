/** A pot of which whoever eats must leave a part to the next: eaters, evenings, laws, orders. */
public final class ThirdLeft {
    public static final int BAD = -1, FULL = -2, FINDING = -3, STATE = -4, SPENT = -6, NONE = -9;

    private static final int NOTHING = 1, BEYOND = 2, UNLIKE = 3, NOUGHT = 4, SIZE = 5;
    private static final int EATER = 0, GUEST = 1, CHEAT = 2, NOTARY = 3, DOG = 4, CHILD = 5;
    private static final int PARTS = 0, PIECES = 1;
    private static final int BLANK = 32;
    private static final int ROWS = 6, TEXTS = 4, PLACES = 60, KEPT = 3;
    private static final int CROWD = 7, ALL_ORDERS = 5040, ALL_TURNS = 2401, LAWS = 4;
    private static final int MOST_POT = 999, MOST_NEED = 99;
    private static final int WEEK = 7, FEW_DAYS = 4, MOST_KITCHENS = 40;
    private static final int LOT = 2147483647, LOT_TIMES = 48271;

    /**
     * By parts a piece is counted as 24^7 grains: one who eats divides what is there by a divisor of
     * 24, and seven eat at most, so that every share is a whole number of grains.
     */
    private static final long GRAINS = 4586471424L;

    private final Ints[] rows = new Ints[ROWS];
    private final Ints[] texts = new Ints[TEXTS];
    private final Reader reader = new Reader();
    private final Company company = new Company();
    private final Evening now = new Evening();
    private final Evening[] kept = new Evening[KEPT];
    private final Sitting sitting = new Sitting();
    private final Sitting second = new Sitting();
    private final Pots pots = new Pots();
    private final Traces traces = new Traces();
    private final Days days = new Days();
    private final int[] findingCounts = new int[SIZE + 1];
    private int latestFinding;
    private int told;
    private long toldUpper;
    private long toldLower = 1;

    public ThirdLeft() {
        for (int r = 0; r < rows.length; r++) {
            rows[r] = new Ints(PLACES, -1);
        }
        for (int t = 0; t < texts.length; t++) {
            texts[t] = new Ints(PLACES, -1);
        }
        for (int k = 0; k < kept.length; k++) {
            kept[k] = new Evening();
        }
    }

    // ---- 1 rows, texts, tables

    public int row(int r, int n) {
        return makeAnew(pick(rows, r), n, 0);
    }

    public int lay(int r, int i, int v) {
        Ints row = pick(rows, r);
        if (row == null) {
            return BAD;
        }
        int finding = missingPlace(row, i);
        if (finding != 0) {
            return refuse(finding);
        }
        told = row.get(i);
        row.set(i, v);
        return 1;
    }

    public int at(int r, int i) {
        Ints row = pick(rows, r);
        if (row == null) {
            return BAD;
        }
        int finding = missingPlace(row, i);
        if (finding != 0) {
            return refuse(finding);
        }
        told = row.get(i);
        return 1;
    }

    public int tear(int r) {
        Ints row = pick(rows, r);
        if (row == null) {
            return BAD;
        }
        if (row.missing()) {
            return refuse(NOTHING);
        }
        row.vanish();
        return 1;
    }

    public int copy(int r, int i, int to, int j, int n) {
        Ints source = pick(rows, r);
        Ints target = pick(rows, to);
        if (source == null || target == null) {
            return BAD;
        }
        if (n < 0) {
            return refuse(SIZE);
        }
        if (source.missing() || target.missing()) {
            return refuse(NOTHING);
        }
        if (!source.holds(i, n) || !target.holds(j, n)) {
            return refuse(BEYOND);
        }
        source.moveTo(target, i, j, n);
        return 1;
    }

    public int mean(int r) {
        Ints row = pick(rows, r);
        if (row == null) {
            return BAD;
        }
        if (row.missing()) {
            return refuse(NOTHING);
        }
        if (row.size() == 0) {
            return refuse(NOUGHT);
        }
        told = (int) (row.sum() / row.size());
        return 1;
    }

    public int text(int t, int n) {
        return makeAnew(pick(texts, t), n, BLANK);
    }

    public int put(int t, int i, int v) {
        Ints text = pick(texts, t);
        if (text == null) {
            return BAD;
        }
        int finding = missingPlace(text, i);
        if (finding != 0) {
            return refuse(finding);
        }
        int was = text.get(i);
        text.set(i, (byte) v);
        return was + 1000;
    }

    public int fault(int t) {
        Ints text = pick(texts, t);
        if (text == null) {
            return BAD;
        }
        if (text.missing()) {
            return refuse(NOTHING);
        }
        int fault = reader.read(text);
        return fault < 0 ? NONE : fault;
    }

    public int table(int t) {
        Ints text = pick(texts, t);
        if (text == null) {
            return BAD;
        }
        if (text.missing()) {
            return refuse(NOTHING);
        }
        if (reader.read(text) >= 0) {
            return STATE;
        }
        company.sitDown(reader);
        for (Evening evening : kept) {
            evening.there = false;
        }
        now.start(company, PARTS);
        return company.size;
    }

    public int eater(int k, int what) {
        if (!company.has(k) || what < 0 || what > 2) {
            return BAD;
        }
        told = company.about(k, what);
        return 1;
    }

    public int mark(int k, int kind) {
        if (!company.has(k) || kind <= EATER || kind > CHILD) {
            return BAD;
        }
        if (!company.isOf(k, kind)) {
            return refuse(UNLIKE);
        }
        switch (kind) {
            case GUEST:
                return company.placeOf(k);
            case CHEAT:
                return company.size - 1 - company.placeOf(k);
            case NOTARY:
                return (int) Spoon.may(company.pot, Spoon.divisor(company.law, 0)) - company.needs.get(k);
            case DOG:
                serveMoved(k, company.size - 1, PIECES);
                return Integer.bitCount(sitting.fedAll());
            default:
                return now.tookJust(k, company.needs.get(k)) ? 1 : 0;
        }
    }

    public int law(int v) {
        if (v < 0 || v >= LAWS) {
            return BAD;
        }
        int was = company.law;
        company.law = v;
        return was;
    }

    public int pot(int v) {
        if (v < 1 || v > MOST_POT) {
            return BAD;
        }
        int was = company.pot;
        company.pot = v;
        return was;
    }

    public int need(int k, int v) {
        if (!company.has(k) || v < 0 || v > MOST_NEED) {
            return BAD;
        }
        int was = company.needs.get(k);
        company.needs.set(k, v);
        return was;
    }

    public int order(int r) {
        Ints row = pick(rows, r);
        if (row == null) {
            return BAD;
        }
        if (row.missing()) {
            return refuse(NOTHING);
        }
        if (row.size() != company.size) {
            return refuse(SIZE);
        }
        if (!company.isOrder(row)) {
            return refuse(UNLIKE);
        }
        row.moveTo(company.order, 0, 0, company.size);
        return company.size;
    }

    // ---- 2 an evening, one by one

    public int begin(int how) {
        if (!isHow(how)) {
            return BAD;
        }
        now.start(company, how);
        return company.size;
    }

    public int eat() {
        if (now.eaten >= company.size) {
            return STATE;
        }
        int k = now.nextEats(company);
        tellShare(now.takes.get(k), now.how);
        return k;
    }

    public int took(int k) {
        if (!company.has(k)) {
            return BAD;
        }
        if (!now.hasEaten(k)) {
            return STATE;
        }
        tellShare(now.takes.get(k), now.how);
        return 1;
    }

    public int left() {
        tellShare(now.grains, now.how);
        return now.eaten;
    }

    public int fed() {
        return tellBits(now.fedSoFar(company));
    }

    public int keep(int k) {
        Evening place = pickKept(k);
        if (place == null) {
            return BAD;
        }
        if (company.size == 0) {
            return STATE;
        }
        place.becomeLike(now);
        place.there = true;
        return now.eaten;
    }

    public int on(int k) {
        Evening place = pickKept(k);
        if (place == null) {
            return BAD;
        }
        if (!place.there) {
            return refuse(NOTHING);
        }
        now.becomeLike(place);
        return now.eaten;
    }

    // ---- 3 whole evenings (gone through aside)

    public int evening(int how) {
        if (!isHow(how)) {
            return BAD;
        }
        sitting.invite(company);
        sitting.rules(company.law, how, company.pot);
        sitting.seatTurned(company.order, 0);
        sitting.serve(0);
        tellShare(sitting.rest(), how);
        return tellBits(sitting.fedAll());
    }

    public int place(int k, int at, int how) {
        if (!company.has(k) || !company.has(at) || !isHow(how)) {
            return BAD;
        }
        serveMoved(k, at, how);
        tellShare(sitting.takes.get(k), how);
        return 1;
    }

    public int favours(int k, int how) {
        if (!company.has(k) || !isHow(how)) {
            return BAD;
        }
        int where = 0;
        long most = -1;
        for (int at = 0; at < company.size; at++) {
            serveMoved(k, at, how);
            long taken = sitting.takes.get(k);
            if (taken > most) {
                most = taken;
                where = at;
            }
        }
        tellShare(most, how);
        return where;
    }

    public int least(int how) {
        if (!isHow(how)) {
            return BAD;
        }
        if (company.size == 0) {
            return STATE;
        }
        return noneIfNought(pots.lowest(company, company.order, company.law, how, 1, MOST_POT));
    }

    public int best(int how, int r) {
        Ints row = pick(rows, r);
        if (row == null || !isHow(how)) {
            return BAD;
        }
        if (company.size == 0) {
            return STATE;
        }
        int pot = pots.leastOfOrders(company, how);
        if (pot != 0) {
            row.reset(company.size, 0);
            pots.found.moveTo(row, 0, 0, company.size);
        }
        return noneIfNought(pot);
    }

    public int most(int how) {
        if (!isHow(how)) {
            return BAD;
        }
        if (company.size == 0) {
            return STATE;
        }
        int most = traces.mostFed(company, how);
        told = traces.orders;
        return most;
    }

    public int kind(int how) {
        if (!isHow(how)) {
            return BAD;
        }
        if (company.size == 0) {
            return STATE;
        }
        int best = 0;
        int most = -1;
        long mostRest = -1;
        sitting.invite(company);
        for (int law = 0; law < LAWS; law++) {
            sitting.rules(law, how, company.pot);
            sitting.seatTurned(company.order, 0);
            sitting.serve(0);
            int fed = Integer.bitCount(sitting.fedAll());
            if (fed > most || fed == most && sitting.rest() > mostRest) {
                best = law;
                most = fed;
                mostRest = sitting.rest();
            }
        }
        told = most;
        return best;
    }

    // ---- 4 weeks, several pots, cheats

    public int week(int k, int d, int how) {
        if (!company.has(k) || d < 1 || d > WEEK || !isHow(how)) {
            return BAD;
        }
        sitting.invite(company);
        sitting.rules(company.law, how, company.pot);
        long all = 0;
        for (int turn = 0; turn < d; turn++) {
            sitting.seatTurned(company.order, turn);
            sitting.serve(0);
            all += sitting.takes.get(k);
        }
        tellShare(all, how);
        return 1;
    }

    public int even(int d, int how) {
        if (d < 1 || d > FEW_DAYS || !isHow(how)) {
            return BAD;
        }
        if (company.size == 0) {
            return STATE;
        }
        int best = days.mostEven(company, d, how);
        told = days.turns;
        return best;
    }

    public int two(int how) {
        if (!isHow(how)) {
            return BAD;
        }
        sitting.invite(company);
        sitting.rules(company.law, how, company.pot);
        sitting.seatTurned(company.order, 0);
        sitting.serve(0);
        second.invite(company);
        second.rules(company.law, how, company.pot);
        second.seatBackwards(company.order);
        second.serve(0);
        int who = 0;
        for (int k = 0; k < company.size; k++) {
            long taken = sitting.takes.get(k) + second.takes.get(k);
            if (taken >= company.needs.get(k) * Spoon.unit(how)) {
                who |= 1 << k;
            }
        }
        return tellBits(who);
    }

    public int scales() {
        long rest = restWithHonest(0);
        int shown = 0;
        for (int k = 0; k < company.size; k++) {
            if (company.isOf(k, CHEAT) && restWithHonest(1 << k) - rest >= Spoon.unit(PARTS)) {
                shown |= 1 << k;
            }
        }
        told = company.countOf(CHEAT);
        return shown;
    }

    public int cheats() {
        int who = company.setOf(CHEAT);
        restWithHonest(0);
        long cheating = sitting.takenBy(who);
        restWithHonest(who);
        tellShare(cheating - sitting.takenBy(who), PARTS);
        return 1;
    }

    // ---- 5 what was left

    public int bones(int v) {
        if (v < 0 || v > MOST_POT) {
            return BAD;
        }
        if (company.size == 0) {
            return STATE;
        }
        traces.follow(company, v, 0, 0);
        tellFraction(traces.orders, traces.ofAll);
        return traces.orders;
    }

    public int last(int v) {
        if (v < 0 || v > MOST_POT) {
            return BAD;
        }
        traces.follow(company, v, 0, 0);
        if (traces.orders == 0) {
            return refuse(NOUGHT);
        }
        told = traces.firsts;
        return traces.lasts;
    }

    public int ahead(int k, int j, int v) {
        if (!company.has(k) || !company.has(j) || k == j || v < 0 || v > MOST_POT) {
            return BAD;
        }
        traces.follow(company, v, k, j);
        if (traces.orders == 0) {
            return refuse(NOUGHT);
        }
        if (traces.aheads == 0) {
            return 0;
        }
        return traces.aheads == traces.orders ? 1 : 2;
    }

    // ---- 6 famine, lots

    public int famine(int d, int how) {
        if (d < 1 || d > WEEK || !isHow(how)) {
            return BAD;
        }
        if (company.size == 0) {
            return STATE;
        }
        return noneIfNought(pots.lowest(company, company.order, company.law, how, d, MOST_POT));
    }

    public int kindest(int d, int how) {
        if (d < 1 || d > WEEK || !isHow(how)) {
            return BAD;
        }
        if (company.size == 0) {
            return STATE;
        }
        int kindest = NONE;
        int top = MOST_POT;
        // A later law counts only if a smaller pot does by it: what is looked for is below the best.
        for (int law = 0; law < LAWS && top >= 1; law++) {
            int pot = pots.lowest(company, company.order, law, how, d, top);
            if (pot != 0) {
                kindest = law;
                top = pot - 1;
            }
        }
        if (kindest != NONE) {
            told = top + 1;
        }
        return kindest;
    }

    public int kitchens(int n, int seed, int how, int r) {
        Ints row = pick(rows, r);
        if (row == null || n < 1 || n > MOST_KITCHENS || seed < 1 || seed >= LOT || !isHow(how)) {
            return BAD;
        }
        if (company.size == 0) {
            return STATE;
        }
        row.reset(company.size, 0);
        days.byLots(company, n, seed, how, row);
        return row.firstGreatest();
    }

    // ---- 7 what is told

    public int asked() {
        return told;
    }

    public long upper() {
        return toldUpper;
    }

    public long lower() {
        return toldLower;
    }

    public int count(int what) {
        switch (what) {
            case 0:
                return company.size;
            case 1:
                return company.allNeeds();
            case 2:
                return company.countOf(GUEST);
            case 3:
                return company.countOf(CHEAT);
            case 4:
                return now.eaten;
            case 5:
                return countKept();
            case 6:
                return countThere(rows);
            case 7:
                return countThere(texts);
            default:
                return BAD;
        }
    }

    public int finding() {
        return latestFinding;
    }

    public int findings(int f) {
        return f < NOTHING || f >= findingCounts.length ? BAD : findingCounts[f];
    }

    public long digest() {
        long h = 17;
        for (int what = 0; what <= 7; what++) {
            h = 31 * h + count(what);
        }
        h = 31 * h + company.pot;
        h = 31 * h + company.law;
        for (int k = 0; k < company.size; k++) {
            for (int what = 0; what <= 2; what++) {
                h = 31 * h + company.about(k, what);
            }
        }
        h = digestOfEvening(31 * h + now.how);
        for (Evening evening : kept) {
            h = 31 * h + (evening.there ? evening.eaten : -1);
        }
        for (Ints row : rows) {
            h = row.digestInto(h);
        }
        for (Ints text : texts) {
            h = text.digestInto(h);
        }
        return h;
    }

    // ---- what the calls share

    private static boolean isHow(int how) {
        return how == PARTS || how == PIECES;
    }

    private static int noneIfNought(int pot) {
        return pot == 0 ? NONE : pot;
    }

    private static Ints pick(Ints[] from, int i) {
        return i < 0 || i >= from.length ? null : from[i];
    }

    private Evening pickKept(int k) {
        return k < 0 || k >= kept.length ? null : kept[k];
    }

    private int makeAnew(Ints row, int n, int filling) {
        if (row == null || n > PLACES) {
            return BAD;
        }
        if (n < 0) {
            return refuse(SIZE);
        }
        row.reset(n, filling);
        return n;
    }

    /** Which finding stands against place i of a row; 0 if none does. */
    private static int missingPlace(Ints row, int i) {
        if (row.missing()) {
            return NOTHING;
        }
        return row.has(i) ? 0 : BEYOND;
    }

    private int refuse(int finding) {
        if (finding >= 0 && finding < findingCounts.length) {
            latestFinding = finding;
            findingCounts[finding]++;
        }
        return FINDING;
    }

    private int tellBits(int set) {
        told = Integer.bitCount(set);
        return set;
    }

    private void tellShare(long grains, int how) {
        tellFraction(grains, Spoon.unit(how));
    }

    private void tellFraction(long up, long low) {
        long common = common(up, low);
        toldUpper = up / common;
        toldLower = low / common;
    }

    /** The greatest common divisor, never below 1. */
    private static long common(long a, long b) {
        long x = Math.abs(a);
        long y = Math.abs(b);
        // Two numbers below 2^63 are through after some ninety divisions.
        for (int i = 0; i < 200 && y > 0; i++) {
            long rest = x % y;
            x = y;
            y = rest;
        }
        return x > 0 ? x : 1;
    }

    private void serveMoved(int k, int at, int how) {
        sitting.invite(company);
        sitting.rules(company.law, how, company.pot);
        sitting.seatMoved(company.order, k, at);
        sitting.serve(0);
    }

    /** What is left by parts if these eat as mere eaters. */
    private long restWithHonest(int honest) {
        sitting.invite(company);
        sitting.makeEaters(honest);
        sitting.rules(company.law, PARTS, company.pot);
        sitting.seatTurned(company.order, 0);
        sitting.serve(0);
        return sitting.rest();
    }

    private int countKept() {
        int n = 0;
        for (Evening evening : kept) {
            n += evening.there ? 1 : 0;
        }
        return n;
    }

    private static int countThere(Ints[] of) {
        int n = 0;
        for (Ints row : of) {
            n += row.missing() ? 0 : 1;
        }
        return n;
    }

    private long digestOfEvening(long before) {
        long h = digestOfShare(before, now.grains);
        for (int i = 0; i < now.eaten; i++) {
            int k = now.line.get(i);
            h = digestOfShare(31 * h + k, now.takes.get(k));
        }
        return h;
    }

    private long digestOfShare(long before, long grains) {
        long unit = Spoon.unit(now.how);
        long common = common(grains, unit);
        return 31 * (31 * before + grains / common) + unit / common;
    }

    /** Ints by places; a place that there is not holds 0 and can't be set. Size -1: missing. */
    private static final class Ints {
        private final int[] v;
        private int size;

        Ints(int room, int size) {
            this.v = new int[room > 0 ? room : 0];
            this.size = Math.min(size, v.length);
        }

        int size() {
            return size;
        }

        void vanish() {
            size = -1;
        }

        boolean missing() {
            return size < 0;
        }

        boolean has(int i) {
            return i >= 0 && i < size && i < v.length;
        }

        /** Whether n places from i on are there (with n 0: whether i is no further than the end). */
        boolean holds(int i, int n) {
            return i >= 0 && n >= 0 && i <= size && n <= size - i;
        }

        int get(int i) {
            return has(i) ? v[i] : 0;
        }

        void set(int i, int x) {
            if (has(i)) {
                v[i] = x;
            }
        }

        void reset(int n, int filling) {
            size = Math.min(n, v.length);
            for (int i = 0; i < size && i < v.length; i++) {
                v[i] = filling;
            }
        }

        /** Leaves both as they are if not so many places are there. */
        void moveTo(Ints to, int from, int at, int n) {
            if (holds(from, n) && to.holds(at, n)) {
                System.arraycopy(v, from, to.v, at, n);
            }
        }

        void swap(int i, int j) {
            int x = get(i);
            set(i, get(j));
            set(j, x);
        }

        long sum() {
            long all = 0;
            for (int i = 0; i < size; i++) {
                all += get(i);
            }
            return all;
        }

        int firstGreatest() {
            int best = 0;
            for (int i = 1; i < size; i++) {
                if (get(i) > get(best)) {
                    best = i;
                }
            }
            return best;
        }

        long digestInto(long before) {
            long h = 31 * before + size;
            for (int i = 0; i < size; i++) {
                h = 31 * h + get(i);
            }
            return h;
        }
    }

    /** Longs by places, likewise. */
    private static final class Longs {
        private final long[] v;

        Longs(int room) {
            this.v = new long[room > 0 ? room : 0];
        }

        long get(int i) {
            return i >= 0 && i < v.length ? v[i] : 0;
        }

        void set(int i, long x) {
            if (i >= 0 && i < v.length) {
                v[i] = x;
            }
        }

        void becomeLike(Longs other) {
            for (int i = 0; i < v.length; i++) {
                v[i] = other.get(i);
            }
        }
    }

    /** What one may take, and takes, of what is there; the same by grains and by pieces. */
    private static final class Spoon {
        private Spoon() {
        }

        /** How many of what is counted make a piece. */
        static long unit(int how) {
            return how == PARTS ? GRAINS : 1;
        }

        /** What is there is divided by this to be left, for the one who eats behind so many. */
        static int divisor(int law, int eaten) {
            switch (law) {
                case 1:
                    return 4;
                case 2:
                    return 2;
                case 3:
                    return eaten % 2 == 0 ? 3 : 2;
                default:
                    return 3;
            }
        }

        /** Cut down by pieces; grains always divide, so that the cut takes nothing from them. */
        static long may(long there, int divisor) {
            return divisor > 0 ? there * (divisor - 1) / divisor : 0;
        }

        static long take(int kind, long need, long there, int divisor) {
            long may = may(there, divisor);
            switch (kind) {
                case GUEST:
                    return may / 2;
                case CHEAT:
                    return may + (there - may) / 2;
                case NOTARY:
                    return Math.min(may, need);
                case DOG:
                    return there;
                case CHILD:
                    return Math.min(may / 2, need);
                default:
                    return may;
            }
        }
    }

    /** Reads a table from a text into what it would be. */
    private static final class Reader {
        private static final char[] LETTERS = {'e', 'g', 'c', 'n', 'd', 'k'};

        final Ints kinds = new Ints(CROWD, CROWD);
        final Ints needs = new Ints(CROWD, CROWD);
        int size;
        int pot;
        int law;

        /** The fault's place, or -1. */
        int read(Ints text) {
            size = 0;
            law = 0;
            int at = behindBlanks(text, 0);
            if (text.get(at) != 'p') {
                return at;
            }
            int end = behindFigures(text, at + 1, 3);
            pot = number(text, at + 1, end);
            if (pot == 0) {
                return end;
            }
            at = behindBlanks(text, end);
            if (text.get(at) == 'l') {
                law = text.get(at + 1) - '0';
                if (law < 0 || law >= LAWS) {
                    return at + 1;
                }
                at = behindBlanks(text, at + 2);
            }
            return readEaters(text, at);
        }

        private int readEaters(Ints text, int from) {
            int at = from;
            for (int i = 0; i <= CROWD && text.has(at); i++) {
                int kind = kindBy(text.get(at));
                if (kind < 0 || size >= CROWD) {
                    return at;
                }
                int end = behindFigures(text, at + 1, 2);
                if (end == at + 1) {
                    return end;
                }
                kinds.set(size, kind);
                needs.set(size, number(text, at + 1, end));
                size++;
                at = behindBlanks(text, end);
            }
            return -1;
        }

        private static int kindBy(int letter) {
            for (int kind = 0; kind < LETTERS.length; kind++) {
                if (LETTERS[kind] == letter) {
                    return kind;
                }
            }
            return -1;
        }

        private static int behindBlanks(Ints text, int from) {
            int at = from;
            while (at < text.size() && text.get(at) == BLANK) {
                at++;
            }
            return at;
        }

        private static int behindFigures(Ints text, int from, int most) {
            int at = from;
            while (at < from + most && text.get(at) >= '0' && text.get(at) <= '9') {
                at++;
            }
            return at;
        }

        private static int number(Ints text, int from, int end) {
            int n = 0;
            for (int at = from; at < end; at++) {
                n = 10 * n + text.get(at) - '0';
            }
            return n;
        }
    }

    /** Who eats here, in which order, by which law, and the pot, all as told. */
    private static final class Company {
        final Ints kinds = new Ints(CROWD, CROWD);
        final Ints needs = new Ints(CROWD, CROWD);
        final Ints order = new Ints(CROWD, CROWD);
        int size;
        int law;
        int pot;

        void sitDown(Reader table) {
            size = table.size;
            law = table.law;
            pot = table.pot;
            for (int k = 0; k < size; k++) {
                kinds.set(k, table.kinds.get(k));
                needs.set(k, table.needs.get(k));
                order.set(k, k);
            }
        }

        boolean has(int k) {
            return k >= 0 && k < size;
        }

        boolean isOf(int k, int kind) {
            int own = kinds.get(k);
            return own == kind || kind == GUEST && own == CHILD;
        }

        int setOf(int kind) {
            int set = 0;
            for (int k = 0; k < size; k++) {
                set |= isOf(k, kind) ? 1 << k : 0;
            }
            return set;
        }

        int countOf(int kind) {
            return Integer.bitCount(setOf(kind));
        }

        int allNeeds() {
            int all = 0;
            for (int k = 0; k < size; k++) {
                all += needs.get(k);
            }
            return all;
        }

        int placeOf(int k) {
            int place = 0;
            for (int i = 0; i < size; i++) {
                if (order.get(i) == k) {
                    place = i;
                }
            }
            return place;
        }

        /** 0 its kind, 1 its need, 2 its place. */
        int about(int k, int what) {
            if (what == 0) {
                return kinds.get(k);
            }
            return what == 1 ? needs.get(k) : placeOf(k);
        }

        boolean isOrder(Ints row) {
            int seen = 0;
            for (int i = 0; i < row.size(); i++) {
                int k = row.get(i);
                if (!has(k) || (seen & 1 << k) != 0) {
                    return false;
                }
                seen |= 1 << k;
            }
            return true;
        }
    }

    /** An evening gone through one by one. */
    private static final class Evening {
        final Ints line = new Ints(CROWD, CROWD);
        final Longs takes = new Longs(CROWD);
        boolean there;
        int how;
        int eaten;
        long grains;
        private int who;

        void start(Company company, int how) {
            this.how = how;
            eaten = 0;
            who = 0;
            grains = company.pot * Spoon.unit(how);
            company.order.moveTo(line, 0, 0, company.size);
        }

        int nextEats(Company company) {
            int k = line.get(eaten);
            long need = company.needs.get(k) * Spoon.unit(how);
            long taken = Spoon.take(company.kinds.get(k), need, grains, Spoon.divisor(company.law, eaten));
            takes.set(k, taken);
            grains -= taken;
            eaten++;
            who |= 1 << k;
            return k;
        }

        boolean hasEaten(int k) {
            return (who & 1 << k) != 0;
        }

        boolean tookJust(int k, int need) {
            return hasEaten(k) && takes.get(k) == need * Spoon.unit(how);
        }

        int fedSoFar(Company company) {
            int fed = 0;
            for (int k = 0; k < company.size; k++) {
                if (hasEaten(k) && takes.get(k) >= company.needs.get(k) * Spoon.unit(how)) {
                    fed |= 1 << k;
                }
            }
            return fed;
        }

        void becomeLike(Evening other) {
            how = other.how;
            eaten = other.eaten;
            grains = other.grains;
            who = other.who;
            takes.becomeLike(other.takes);
            other.line.moveTo(line, 0, 0, CROWD);
        }
    }

    /** A whole evening gone through aside: invite, rules, then a line, then serve. */
    private static final class Sitting {
        private final Ints kinds = new Ints(CROWD, CROWD);
        private final Ints needs = new Ints(CROWD, CROWD);
        final Ints line = new Ints(CROWD, CROWD);
        /** By eaters: what each took. */
        final Longs takes = new Longs(CROWD);
        /** By places: what is there ahead of each, and who of those ahead of it is fed. */
        private final Longs there = new Longs(CROWD + 1);
        private final Ints fed = new Ints(CROWD + 1, CROWD + 1);
        private int size;
        private int law;
        private int how;

        void invite(Company company) {
            size = company.size;
            company.kinds.moveTo(kinds, 0, 0, CROWD);
            company.needs.moveTo(needs, 0, 0, CROWD);
        }

        void makeEaters(int who) {
            for (int k = 0; k < size; k++) {
                if ((who & 1 << k) != 0) {
                    kinds.set(k, EATER);
                }
            }
        }

        void rules(int law, int how, int pot) {
            this.law = law;
            this.how = how;
            there.set(0, pot * Spoon.unit(how));
        }

        void seatTurned(Ints order, int turn) {
            for (int i = 0; i < size; i++) {
                line.set(i, order.get((i + turn) % size));
            }
        }

        void seatBackwards(Ints order) {
            for (int i = 0; i < size; i++) {
                line.set(i, order.get(size - 1 - i));
            }
        }

        /** By an order, but one is taken out of it and put in again at a place. */
        void seatMoved(Ints order, int k, int at) {
            int next = 0;
            for (int i = 0; i < size; i++) {
                int other = order.get(i);
                if (other != k) {
                    next += next == at ? 1 : 0;
                    line.set(next, other);
                    next++;
                }
            }
            line.set(at, k);
        }

        void seatByNumbers() {
            for (int i = 0; i < size; i++) {
                line.set(i, i);
            }
        }

        /** The next line of all orders; answers the first place that is another now, -1 at the end. */
        int seatNext() {
            int i = size - 2;
            while (i >= 0 && line.get(i) > line.get(i + 1)) {
                i--;
            }
            if (i < 0) {
                return -1;
            }
            int j = size - 1;
            while (j > i && line.get(j) < line.get(i)) {
                j--;
            }
            line.swap(i, j);
            for (int a = i + 1, b = size - 1; a < b; a++, b--) {
                line.swap(a, b);
            }
            return i;
        }

        /** All from a place on eat; what those ahead of it did stands as it was. */
        void serve(int from) {
            long unit = Spoon.unit(how);
            for (int i = from; i < size; i++) {
                int k = line.get(i);
                long need = needs.get(k) * unit;
                long taken = Spoon.take(kinds.get(k), need, there.get(i), Spoon.divisor(law, i));
                takes.set(k, taken);
                there.set(i + 1, there.get(i) - taken);
                fed.set(i + 1, taken >= need ? fed.get(i) | 1 << k : fed.get(i));
            }
        }

        int fedAll() {
            return fed.get(size);
        }

        boolean isAll(int set) {
            return Integer.bitCount(set) == size;
        }

        long rest() {
            return there.get(size);
        }

        long takenBy(int who) {
            long all = 0;
            for (int k = 0; k < size; k++) {
                all += (who & 1 << k) != 0 ? takes.get(k) : 0;
            }
            return all;
        }
    }

    /** The least pots by which all are fed. */
    private static final class Pots {
        private final Sitting sitting = new Sitting();
        private final Sitting trial = new Sitting();
        /** The order of the latest leastOfOrders(). */
        final Ints found = new Ints(CROWD, CROWD);

        /**
         * The least pot, top at most, by which in so many evenings all are fed once; 0 if none.
         * Of more there each kind takes no less and leaves no less, so that halving finds it.
         */
        int lowest(Company company, Ints order, int law, int how, int evenings, int top) {
            trial.invite(company);
            if (!feeds(order, law, how, evenings, top)) {
                return 0;
            }
            int low = 1;
            int high = top;
            for (int i = 0; i < 32 && low < high; i++) {
                int middle = (low + high) / 2;
                if (feeds(order, law, how, evenings, middle)) {
                    high = middle;
                } else {
                    low = middle + 1;
                }
            }
            return high;
        }

        private boolean feeds(Ints order, int law, int how, int evenings, int pot) {
            int fed = 0;
            trial.rules(law, how, pot);
            for (int turn = 0; turn < evenings; turn++) {
                trial.seatTurned(order, turn);
                trial.serve(0);
                fed |= trial.fedAll();
            }
            return trial.isAll(fed);
        }

        /** The least pot of all orders, 0 if none; the first such order comes to found. */
        int leastOfOrders(Company company, int how) {
            int top = MOST_POT;
            int from = 0;
            sitting.invite(company);
            sitting.seatByNumbers();
            sitting.rules(company.law, how, top);
            // An order is worth a search only if it does with less than the best one ahead of it.
            for (int i = 0; i < ALL_ORDERS && from >= 0 && top >= 1; i++) {
                sitting.serve(from);
                boolean better = sitting.isAll(sitting.fedAll());
                if (better) {
                    sitting.line.moveTo(found, 0, 0, CROWD);
                    top = lowest(company, found, company.law, how, 1, top) - 1;
                    sitting.rules(company.law, how, top);
                }
                from = sitting.seatNext();
                from = better && from > 0 ? 0 : from;
            }
            return top == MOST_POT ? 0 : top + 1;
        }
    }

    /** What all the orders tell. */
    private static final class Traces {
        private final Sitting sitting = new Sitting();
        /** How many orders did what was looked for, and of how many. */
        int orders;
        int ofAll;
        /** Who ate last, who first in these, and in how many the one ate ahead of the other. */
        int lasts;
        int firsts;
        int aheads;

        int mostFed(Company company, int how) {
            int most = -1;
            orders = 0;
            sitting.invite(company);
            sitting.rules(company.law, how, company.pot);
            sitting.seatByNumbers();
            int from = 0;
            for (int i = 0; i < ALL_ORDERS && from >= 0; i++) {
                sitting.serve(from);
                int fed = Integer.bitCount(sitting.fedAll());
                if (fed > most) {
                    most = fed;
                    orders = 0;
                }
                orders += fed == most ? 1 : 0;
                from = sitting.seatNext();
            }
            return most;
        }

        /** Looks for the orders by which so many pieces are left; none if there are no eaters. */
        void follow(Company company, int left, int one, int other) {
            orders = 0;
            ofAll = 0;
            lasts = 0;
            firsts = 0;
            aheads = 0;
            sitting.invite(company);
            sitting.rules(company.law, PIECES, company.pot);
            sitting.seatByNumbers();
            int from = company.size == 0 ? -1 : 0;
            for (int i = 0; i < ALL_ORDERS && from >= 0; i++) {
                sitting.serve(from);
                ofAll++;
                if (sitting.rest() == left) {
                    note(company.size, one, other);
                }
                from = sitting.seatNext();
            }
        }

        private void note(int size, int one, int other) {
            orders++;
            firsts |= 1 << sitting.line.get(0);
            lasts |= 1 << sitting.line.get(size - 1);
            boolean met = false;
            for (int i = 0; i < size && !met; i++) {
                int k = sitting.line.get(i);
                met = k == one || k == other;
                aheads += k == one ? 1 : 0;
            }
        }
    }

    /** Evenings in a row: turns that are even, and lots. */
    private static final class Days {
        private final Sitting sitting = new Sitting();
        private final Ints fedByTurn = new Ints(CROWD, CROWD);
        private final Ints chosen = new Ints(FEW_DAYS, FEW_DAYS);
        private final Ints drawn = new Ints(CROWD, CROWD);
        private long lot;
        /** The turns of the latest mostEven(), as figures. */
        int turns;

        int mostEven(Company company, int d, int how) {
            int size = company.size;
            sitting.invite(company);
            sitting.rules(company.law, how, company.pot);
            for (int turn = 0; turn < size; turn++) {
                sitting.seatTurned(company.order, turn);
                sitting.serve(0);
                fedByTurn.set(turn, sitting.fedAll());
            }
            chosen.reset(FEW_DAYS, 0);
            int best = -1;
            boolean more = true;
            for (int i = 0; i < ALL_TURNS && more; i++) {
                int fed = leastOftenFed(size, d);
                if (fed > best) {
                    best = fed;
                    turns = figures(d);
                }
                more = chooseNext(size, d);
            }
            return best;
        }

        /** Of the same turns in any order the rising one comes first, so the others are passed by. */
        private boolean chooseNext(int size, int d) {
            int day = d - 1;
            while (day >= 0 && chosen.get(day) >= size - 1) {
                day--;
            }
            if (day < 0) {
                return false;
            }
            int turn = chosen.get(day) + 1;
            for (int i = day; i < d; i++) {
                chosen.set(i, turn);
            }
            return true;
        }

        private int leastOftenFed(int size, int d) {
            int least = d;
            for (int k = 0; k < size; k++) {
                int times = 0;
                for (int day = 0; day < d; day++) {
                    times += fedByTurn.get(chosen.get(day)) >> k & 1;
                }
                least = Math.min(least, times);
            }
            return least;
        }

        private int figures(int d) {
            int number = 0;
            for (int day = 0; day < d; day++) {
                number = number * 7 + chosen.get(day);
            }
            return number;
        }

        /** How often each is fed is added to times. */
        void byLots(Company company, int n, int seed, int how, Ints times) {
            lot = seed;
            sitting.invite(company);
            sitting.rules(company.law, how, company.pot);
            for (int i = 0; i < n; i++) {
                draw(company);
                sitting.seatTurned(drawn, 0);
                sitting.serve(0);
                for (int k = 0; k < company.size; k++) {
                    times.set(k, times.get(k) + (sitting.fedAll() >> k & 1));
                }
            }
        }

        private void draw(Company company) {
            company.order.moveTo(drawn, 0, 0, CROWD);
            for (int place = company.size - 1; place >= 1; place--) {
                lot = lot * LOT_TIMES % LOT;
                drawn.swap(place, (int) (lot % (place + 1)));
            }
        }
    }
}
