/**
 * Goods by warrant: lots on the floors of a wharf, the papers by which they are sold, and what
 * was known of them on any day. The document's promises stand above the methods that keep them.
 */
public final class WharfPapers {
    public static final int NONE = -1, UNKNOWN = -1001, OUTSIDE = -1002, NOT = -1003, FULL = -1004;

    private static final int LAST_DAY = 2000, WEEK = 7, MOST_STEP = 999;
    private static final int HOUSES = 8, FLOORS = 6, SORTS = 4;
    private static final int MOST_LOTS = 12, MOST_LINES = 120, MOST_CASKS = 200;
    private static final int MOST_WEIGHT = 999, MOST_ROOM = 999, FIRST_ROOM = 200;
    private static final int MOST_SUM = 9999, MOST_MONEY = 99999;

    private static final int ISSUE = 0, PASS = 1, PART = 2, LENT = 3, REPAID = 4, STOP = 5;
    private static final int FREED = 6, OUT = 7, BURNT = 8, STOLEN = 9, VOID = 10;

    /** By KINDS: 1 where the LINE has a HOUSE p; the bounds of its n (NONE: it has none). */
    private static final int[] HAS_P = {1, 1, 0, 1, 0, 1, 0, 0, 0, 1, 0};
    private static final int[] LEAST_N = {1, 0, 1, 1, -1, -1, -1, 1, 1, -1, -1};
    private static final int[] MOST_N = {200, 1, 200, 9999, -1, -1, -1, 200, 200, -1, -1};

    /** What TERMS hold, by the numbers that force() has for it; RANK is the row of keys. */
    private static final int RENT = 0, TITLE = 1, STOPS = 2, BEAR = 3, BEYOND = 4, DRY = 5, RANK = 9;
    private static final int KEYS = 4, KEY_RENT = 0, KEY_BANK = 1, KEY_SELLER = 2;

    private int now;
    private final Lots lots;
    private final Lines lines;
    private final Terms terms;
    private final Reader reader;
    private final Story story;
    private final Story earlier;
    private final Doubt doubt;
    private final Weighings weighings;
    private final int[][] unpaid;
    private final Sales sales;
    private final Dues dues;
    private final int[] room;
    private final int[] partedFrom;
    private final Plan plan;

    /** Promise 1. */
    public WharfPapers() {
        now = 0;
        lots = new Lots();
        lines = new Lines();
        terms = new Terms();
        reader = new Reader();
        story = new Story(lots, lines, terms);
        earlier = new Story(lots, lines, terms);
        doubt = new Doubt();
        weighings = new Weighings();
        unpaid = new int[HOUSES][MOST_LOTS];
        sales = new Sales();
        dues = new Dues();
        room = new int[FLOORS];
        for (int f = 0; f < FLOORS; f++) {
            room[f] = FIRST_ROOM;
        }
        partedFrom = new int[SORTS];
        plan = new Plan();
    }

    // ---- lots, lines

    /** Promise 2. */
    public int go(int n) {
        if (!within(n, 0, MOST_STEP)) {
            return OUTSIDE;
        }
        if (now + n > LAST_DAY) {
            return NOT;
        }
        now += n;
        return now;
    }

    /** Promise 3. */
    public int lot(int sort, int n, int weight, int house, int floor) {
        if (!isHouse(house) || !isFloor(floor)) {
            return UNKNOWN;
        }
        if (!isSort(sort) || !within(n, 1, MOST_CASKS) || !within(weight, 1, MOST_WEIGHT)) {
            return OUTSIDE;
        }
        if (lots.count >= MOST_LOTS) {
            return FULL;
        }
        return lots.add(sort, n, weight, floor, now);
    }

    /** Promise 4. */
    public int room(int floor, int v) {
        if (!isFloor(floor)) {
            return UNKNOWN;
        }
        if (!within(v, 0, MOST_ROOM)) {
            return OUTSIDE;
        }
        int was = room[floor];
        room[floor] = v;
        return was;
    }

    /** Promise 5. */
    public int move(int l, int floor) {
        if (!lots.has(l) || !isFloor(floor)) {
            return UNKNOWN;
        }
        int was = lots.floor[l];
        if (was == floor) {
            return NOT;
        }
        lots.floor[l] = floor;
        return was;
    }

    /** Promise 6. */
    public int line(int kind, int day, int target, int p, int q, int n) {
        if (!within(kind, ISSUE, VOID)) {
            return OUTSIDE;
        }
        boolean hasP = HAS_P[kind] == 1;
        boolean hasQ = kind == PASS;
        boolean hasN = LEAST_N[kind] != NONE;
        if (!isTarget(kind, target) || (hasP && !isHouse(p)) || (hasQ && !isHouse(q))) {
            return UNKNOWN;
        }
        if (!within(day, 0, now) || (hasN && !within(n, LEAST_N[kind], MOST_N[kind]))) {
            return OUTSIDE;
        }
        if (lines.count >= MOST_LINES) {
            return FULL;
        }
        return lines.add(kind, day, now, target, hasP ? p : NONE, hasQ ? q : NONE, hasN ? n : NONE);
    }

    /** Promise 7. */
    public int told(int i, int what) {
        if (!lines.has(i)) {
            return UNKNOWN;
        }
        switch (what) {
            case 0: return lines.kind[i];
            case 1: return lines.day[i];
            case 2: return lines.told[i];
            case 3: return lines.target[i];
            case 4: return lines.p[i];
            case 5: return lines.q[i];
            case 6: return lines.n[i];
            case 7:
                lines.know(now);
                return lines.isVoid[i] ? 1 : 0;
            case 8:
                story.tell(now, now);
                return story.vain[i] ? 1 : 0;
            default: return OUTSIDE;
        }
    }

    /** Promise 8. */
    public int book(int known, int i) {
        if (!within(known, 0, now)) {
            return OUTSIDE;
        }
        lines.know(known);
        return lines.inBookAt(i);
    }

    /** Promise 9. */
    public int count(int what) {
        switch (what) {
            case 0: return now;
            case 1: return lots.count;
            case 2: return lines.count;
            case 3:
                lines.know(now);
                return lines.voidCount();
            case 4:
                story.tell(now, now);
                return story.vainCount();
            case 5:
                story.tell(now, now);
                return story.papersWithCasks(NONE);
            case 6:
                story.tell(now, now);
                return story.doubles;
            case 7: return terms.count;
            case 8: return sales.count;
            case 9: return dues.count;
            case 10: return reader.length;
            case 11: return weighings.count;
            default: return OUTSIDE;
        }
    }

    // ---- terms

    /** Promise 10. */
    public int feed(int n, long bytes) {
        if (!within(n, 1, 8)) {
            return OUTSIDE;
        }
        if (reader.length + n > Reader.MOST_BYTES) {
            return FULL;
        }
        for (int k = n - 1; k >= 0; k--) {
            reader.add((int) (bytes >>> (8 * k)) & 255);
        }
        return reader.length;
    }

    /** Promise 11. */
    public int term(int day) {
        if (!isDay(day)) {
            return OUTSIDE;
        }
        if (terms.count >= Terms.MOST_TERMS) {
            return FULL;
        }
        reader.read(terms.count);
        if (reader.fault != 0) {
            return -10 - reader.fault;
        }
        return terms.add(day, reader);
    }

    /** Promise 12. */
    public int fault() {
        return reader.faultAt;
    }

    /** Promise 13. */
    public int force(int what, int day) {
        if (!within(what, 0, RANK + KEYS) || !isDay(day)) {
            return OUTSIDE;
        }
        if (what < RANK) {
            return terms.on(what, day);
        }
        return what == RANK ? terms.keysOn(day) : terms.keyOn(what - RANK - 1, day);
    }

    // ---- who has what

    /** Promise 14. */
    public int paper(int w, int day, int known, int what) {
        if (!lines.isPaper(w)) {
            return UNKNOWN;
        }
        if (!isAsked(day, known) || !within(what, 0, 6)) {
            return OUTSIDE;
        }
        story.tell(day, known);
        if (!story.there[w]) {
            return NOT;
        }
        switch (what) {
            case 0: return story.casks[w];
            case 1: return story.holds[w];
            case 2: return story.title[w];
            case 3: return story.lender[w];
            case 4: return story.sum[w];
            case 5: return story.stopper[w];
            default: return story.lot[w];
        }
    }

    /** Promise 15. */
    public int goods(int l, int day, int known, int what) {
        if (!lots.has(l)) {
            return UNKNOWN;
        }
        if (!isAsked(day, known) || !within(what, 0, 5)) {
            return OUTSIDE;
        }
        story.tell(day, known);
        switch (what) {
            case 0: return story.thereOf(l);
            case 1: return story.out[l];
            case 2: return story.burnt[l];
            case 3: return story.onPapers[l];
            case 4: return story.overOf(l);
            default: return story.papersWithCasks(l);
        }
    }

    /** Promise 16. */
    public int share(int w, int day, int known, int what) {
        if (!lines.isPaper(w)) {
            return UNKNOWN;
        }
        if (!isAsked(day, known) || !within(what, 0, 1)) {
            return OUTSIDE;
        }
        story.tell(day, known);
        return story.there[w] ? shareAsTold(w, what == 0) : NOT;
    }

    /** Promise 17. */
    public int doubt(int l, int day, int known, int i) {
        if (!lots.has(l)) {
            return UNKNOWN;
        }
        if (!isAsked(day, known)) {
            return OUTSIDE;
        }
        story.tell(day, known);
        doubt.find(story, lines.count, l);
        return i == NONE ? doubt.count : doubt.at(i);
    }

    /** Promise 18. */
    public int stock(int house, int sort, int what) {
        if (!isHouse(house)) {
            return UNKNOWN;
        }
        if (!isSort(sort) || !within(what, 0, 1)) {
            return OUTSIDE;
        }
        story.tell(now, now);
        return story.casksOf(house, sort, what == 0);
    }

    /** Promise 19. */
    public int news(int day, int a, int b) {
        if (!isAsked(day, a) || !isAsked(day, b)) {
            return OUTSIDE;
        }
        earlier.tell(day, a);
        story.tell(day, b);
        return story.unlike(earlier);
    }

    // ---- rent, weights, money

    /** Promise 20. */
    public int rent(int l, int day) {
        if (!lots.has(l)) {
            return UNKNOWN;
        }
        if (!isDay(day)) {
            return OUTSIDE;
        }
        story.tell(day, now);
        return rentAsTold(l, day);
    }

    /** Promise 21. */
    public int weight(int l, int day) {
        if (!lots.has(l)) {
            return UNKNOWN;
        }
        return isDay(day) ? caskWeight(l, day) : OUTSIDE;
    }

    /** Promise 22. */
    public int weigh(int l, int n, int weight) {
        if (!lots.has(l)) {
            return UNKNOWN;
        }
        if (!within(n, 1, MOST_CASKS) || !within(weight, 0, Weighings.MOST_IN_ALL)) {
            return OUTSIDE;
        }
        if (weighings.count >= Weighings.MOST) {
            return FULL;
        }
        return weighings.add(l, n, weight, now);
    }

    /** Promise 23. */
    public int loss(int i, int what) {
        if (!within(i, 0, weighings.count - 1)) {
            return UNKNOWN;
        }
        if (!within(what, 0, 2)) {
            return OUTSIDE;
        }
        int day = weighings.day[i];
        int ought = weighings.casks[i] * caskWeight(weighings.lot[i], day);
        int lost = Math.max(0, ought - weighings.weight[i]);
        if (what == 0) {
            return lost;
        }
        boolean isBeyond = 1000L * lost > (long) terms.on(BEAR, day) * ought;
        if (what == 1) {
            return isBeyond ? lost : 0;
        }
        return isBeyond ? terms.on(BEYOND, day) : NONE;
    }

    /** Promise 24. */
    public int unpaid(int house, int l, int v) {
        if (!isHouse(house) || !lots.has(l)) {
            return UNKNOWN;
        }
        if (!within(v, 0, MOST_SUM)) {
            return OUTSIDE;
        }
        int was = unpaid[house][l];
        unpaid[house][l] = v;
        return was;
    }

    /** Promise 25. */
    public int money(int l, int m, int day, int what) {
        if (!lots.has(l)) {
            return UNKNOWN;
        }
        if (!within(m, 0, MOST_MONEY) || !isDay(day) || !within(what, 0, KEYS)) {
            return OUTSIDE;
        }
        story.tell(day, now);
        int left = m;
        for (int k = 0; k < KEYS; k++) {
            int key = terms.keyOn(k, day);
            int gets = Math.min(left, wanted(key, l, day, left));
            if (key == what) {
                return gets;
            }
            left -= gets;
        }
        return what == KEYS ? left : 0;
    }

    // ---- sales, dues

    /** Promise 26. */
    public int sale(int a, int b, int sort, int n) {
        if (!isHouse(a) || !isHouse(b)) {
            return UNKNOWN;
        }
        if (a == b || !isSort(sort) || !within(n, 1, Sales.MOST_CASKS_SOLD)) {
            return OUTSIDE;
        }
        return sales.count >= Sales.MOST ? FULL : sales.add(a, b, sort, n);
    }

    /** Promise 27. */
    public int net(int house, int sort) {
        if (!isHouse(house)) {
            return UNKNOWN;
        }
        return isSort(sort) ? sales.netOf(house, sort) : OUTSIDE;
    }

    /** Promise 28. */
    public int handings(int sort) {
        return isSort(sort) ? sales.fewestHandings(sort) : OUTSIDE;
    }

    /** Promise 29. */
    public int due(int a, int b, int v) {
        if (!isHouse(a) || !isHouse(b)) {
            return UNKNOWN;
        }
        if (a == b || !within(v, 1, MOST_SUM)) {
            return OUTSIDE;
        }
        return dues.count >= Dues.MOST ? FULL : dues.add(a, b, v);
    }

    /** Promise 30. */
    public int coin(int house, int v) {
        if (!isHouse(house)) {
            return UNKNOWN;
        }
        if (!within(v, 0, MOST_SUM)) {
            return OUTSIDE;
        }
        int was = dues.coin[house];
        dues.coin[house] = v;
        return was;
    }

    /** Promise 31. */
    public int fails(int house, int what) {
        if (house != NONE && !isHouse(house)) {
            return UNKNOWN;
        }
        if (house == NONE ? !within(what, 4, 5) : !within(what, 0, 3)) {
            return OUTSIDE;
        }
        dues.settle();
        switch (what) {
            case 0: return dues.isShort(house) ? 1 : 0;
            case 1: return dues.has[house];
            case 2: return dues.givenBy(house);
            case 3: return dues.owes[house];
            case 4: return dues.rounds;
            default: return dues.shortCount();
        }
    }

    // ---- floors

    /** Promise 32. */
    public int part(int s, int t, boolean is) {
        if (!isSort(s) || !isSort(t) || s == t) {
            return OUTSIDE;
        }
        int was = (partedFrom[s] >> t) & 1;
        if ((was == 1) != is) {
            partedFrom[s] ^= 1 << t;
            partedFrom[t] ^= 1 << s;
        }
        return was;
    }

    /** Promise 33. */
    public int plan(int set, int i) {
        if ((set >>> lots.count) != 0 || (i != NONE && !lots.has(i))) {
            return UNKNOWN;
        }
        if (Integer.bitCount(set) > Plan.MOST_LAID) {
            return OUTSIDE;
        }
        story.tell(now, now);
        plan.lay(set, lots, story, room, partedFrom);
        if (!plan.isFound()) {
            return NOT;
        }
        return i == NONE ? plan.moved() : plan.floorOf(i);
    }

    // ---- what several promises need

    private static boolean within(int v, int least, int most) {
        return v >= least && v <= most;
    }

    private static boolean isHouse(int h) {
        return within(h, 0, HOUSES - 1);
    }

    private static boolean isFloor(int f) {
        return within(f, 0, FLOORS - 1);
    }

    private static boolean isSort(int s) {
        return within(s, 0, SORTS - 1);
    }

    private static boolean isDay(int d) {
        return within(d, 0, LAST_DAY);
    }

    private boolean isTarget(int kind, int target) {
        if (kind == ISSUE || kind == BURNT) {
            return lots.has(target);
        }
        return kind == VOID ? lines.has(target) : lines.isPaper(target);
    }

    private boolean isAsked(int day, int known) {
        return isDay(day) && within(known, 0, now);
    }

    private int shareAsTold(int w, boolean isUpper) {
        int l = story.lot[w];
        int upper = story.casks[w];
        int lower = 1;
        if (story.overOf(l) > 0) {
            upper *= story.thereOf(l);
            lower = story.onPapers[l];
        }
        int common = Math.max(1, commonDivisor(upper, lower));
        return (isUpper ? upper : lower) / common;
    }

    /** Both stay below 100,000, for which Euclid needs far fewer than 64 steps. */
    private static int commonDivisor(int a, int b) {
        int x = a;
        int y = b;
        for (int step = 0; step < 64 && y != 0; step++) {
            int rest = x % y;
            x = y;
            y = rest;
        }
        return x;
    }

    private int rentAsTold(int l, int day) {
        if (day < lots.since[l]) {
            return 0;
        }
        int begun = (day - lots.since[l]) / WEEK + 1;
        return story.thereOf(l) * terms.on(RENT, day) * begun;
    }

    private int caskWeight(int l, int day) {
        int whole = Math.max(0, day - lots.since[l]) / WEEK;
        int left = Math.max(0, 1000 - terms.on(DRY + lots.sort[l], day) * whole);
        return lots.weight[l] * left / 1000;
    }

    private int wanted(int key, int l, int day, int left) {
        switch (key) {
            case NONE: return 0;
            case KEY_RENT: return rentAsTold(l, day);
            case KEY_BANK: return story.lentOn(l);
            case KEY_SELLER: return unpaidFor(l);
            default: return left;
        }
    }

    private int unpaidFor(int l) {
        int all = 0;
        for (int h = 0; h < HOUSES; h++) {
            all += unpaid[h][l];
        }
        return all;
    }

    /** No call asks for the HOUSE of a LOT, so that it is not kept. */
    private static final class Lots {
        final int[] sort = new int[MOST_LOTS];
        final int[] casks = new int[MOST_LOTS];
        final int[] weight = new int[MOST_LOTS];
        final int[] floor = new int[MOST_LOTS];
        final int[] since = new int[MOST_LOTS];
        int count;

        boolean has(int l) {
            return l >= 0 && l < count;
        }

        int add(int itsSort, int n, int itsWeight, int itsFloor, int day) {
            int l = count;
            sort[l] = itsSort;
            casks[l] = n;
            weight[l] = itsWeight;
            floor[l] = itsFloor;
            since[l] = day;
            count++;
            return l;
        }
    }

    /** LINES as told, and THE BOOK of the DAY for which know() was called last. */
    private static final class Lines {
        final int[] kind = new int[MOST_LINES];
        final int[] day = new int[MOST_LINES];
        final int[] told = new int[MOST_LINES];
        final int[] target = new int[MOST_LINES];
        final int[] p = new int[MOST_LINES];
        final int[] q = new int[MOST_LINES];
        final int[] n = new int[MOST_LINES];
        /** LINES by DAYS, then numbers: kept in order as they come, so that no book is sorted. */
        final int[] order = new int[MOST_LINES];
        final boolean[] isVoid = new boolean[MOST_LINES];
        int count;
        /** LINES are told in the order of DAYS, so what was told by a DAY is a number of first ones. */
        int knownCount;

        boolean has(int i) {
            return i >= 0 && i < count;
        }

        boolean isPaper(int i) {
            return has(i) && (kind[i] == ISSUE || kind[i] == PART);
        }

        int add(int itsKind, int itsDay, int now, int itsTarget, int itsP, int itsQ, int itsN) {
            int i = count;
            kind[i] = itsKind;
            day[i] = itsDay;
            told[i] = now;
            target[i] = itsTarget;
            p[i] = itsP;
            q[i] = itsQ;
            n[i] = itsN;
            int place = i;
            for (; place > 0 && day[order[place - 1]] > itsDay; place--) {
                order[place] = order[place - 1];
            }
            order[place] = i;
            count++;
            return i;
        }

        void know(int known) {
            knownCount = 0;
            for (int i = 0; i < count; i++) {
                isVoid[i] = false;
                if (told[i] <= known) {
                    knownCount = i + 1;
                }
            }
            for (int i = knownCount - 1; i >= 0; i--) {
                if (kind[i] == VOID && !isVoid[i]) {
                    isVoid[target[i]] = true;
                }
            }
        }

        boolean isInBook(int i) {
            return i < knownCount && !isVoid[i];
        }

        int inBookAt(int place) {
            int seen = 0;
            for (int k = 0; k < count; k++) {
                if (isInBook(order[k])) {
                    if (seen == place) {
                        return order[k];
                    }
                    seen++;
                }
            }
            return NONE;
        }

        int voidCount() {
            int all = 0;
            for (int i = 0; i < count; i++) {
                all += isVoid[i] ? 1 : 0;
            }
            return all;
        }
    }

    /** THE TEXT, and the clauses that the latest read() found in it. */
    private static final class Reader {
        static final int MOST_BYTES = 160, MOST_CLAUSES = 10, MOST_FIGURES = 4;
        static final int CANNOT_STAND = 1, BAD_NUMBER = 2, NO_TERM = 3, KEY_AGAIN = 4, TOO_MANY = 5;
        /** Words by numbers, in rows: names, keys, heads of clauses, 'by'. */
        static final int NAMES = 0, LAST_NAME = 4, KEY_WORDS = 5, LAST_KEY = 8;
        static final int HEADS = 9, LAST_HEAD = 12, BY = 13;
        static final int LET = 0, DRY_HEAD = 1, RANK_HEAD = 2;
        /** The code of a strike among clauses; the others have what they rule. */
        static final int STRIKE = 10;
        static final int[] MOST_OF_NAME = {99, 1, 1, 999, 1};

        final int[] text = new int[MOST_BYTES];
        int length;
        final int[] code = new int[MOST_CLAUSES];
        final int[] value = new int[MOST_CLAUSES];
        int clauses;
        int fault;
        int faultAt = NONE;
        private int at;
        private int start;

        void add(int oneByte) {
            if (length < MOST_BYTES) {
                text[length] = oneByte;
                length++;
            }
        }

        /** Leaves THE TEXT empty; fault is 0, or the number of the FAULT. */
        void read(int termsBefore) {
            at = 0;
            clauses = 0;
            fault = 0;
            faultAt = NONE;
            skipBlanks();
            for (int c = 0; c <= MOST_CLAUSES && at < length && fault == 0; c++) {
                readClause(termsBefore);
                skipBlanks();
            }
            length = 0;
        }

        private void readClause(int termsBefore) {
            int head = takeWord(HEADS, LAST_HEAD);
            if (fault == 0 && clauses >= MOST_CLAUSES) {
                fail(TOO_MANY, start);
            }
            if (fault != 0) {
                return;
            }
            switch (head) {
                case LET:
                    readLet();
                    break;
                case DRY_HEAD:
                    readDry();
                    break;
                case RANK_HEAD:
                    keep(RANK, takeKeys());
                    break;
                default:
                    keep(STRIKE, takeTerm(termsBefore));
                    break;
            }
        }

        private void readLet() {
            int name = takeWord(NAMES, LAST_NAME);
            if (name != NONE) {
                keep(name, takeNumber(MOST_OF_NAME[name]));
            }
        }

        private void readDry() {
            int sort = takeNumber(SORTS - 1);
            if (fault == 0) {
                takeWord(BY, BY);
            }
            if (fault == 0) {
                keep(DRY + sort, takeNumber(999));
            }
        }

        private int takeTerm(int termsBefore) {
            int k = takeNumber(9999);
            if (fault == 0 && k >= termsBefore) {
                fail(NO_TERM, start);
            }
            return k;
        }

        /** Keys in a number of three bits each, the first lowest, each one above its own number. */
        private int takeKeys() {
            int keys = 0;
            int seen = 0;
            boolean isMore = true;
            for (int k = 0; k <= KEYS && isMore && fault == 0; k++) {
                int key = takeWord(KEY_WORDS, LAST_KEY);
                if (key != NONE && ((seen >> key) & 1) == 1) {
                    fail(KEY_AGAIN, start);
                }
                if (fault == 0) {
                    seen |= 1 << key;
                    keys |= (key + 1) << (3 * k);
                    isMore = takeIf(',');
                }
            }
            return keys;
        }

        /** The clause counts when its ';' stands there. */
        private void keep(int itsCode, int itsValue) {
            if (fault != 0) {
                return;
            }
            if (!takeIf(';')) {
                fail(CANNOT_STAND, at);
                return;
            }
            code[clauses] = itsCode;
            value[clauses] = itsValue;
            clauses++;
        }

        private boolean takeIf(char sign) {
            skipBlanks();
            if (at < length && text[at] == sign) {
                at++;
                return true;
            }
            return false;
        }

        /** Which word of first .. last stands there, from 0 on; NONE with a FAULT. */
        private int takeWord(int first, int last) {
            skipBlanks();
            start = at;
            int end = at;
            while (end < length && text[end] >= 'a' && text[end] <= 'z') {
                end++;
            }
            for (int k = first; k <= last; k++) {
                if (isSpelled(spelling(k), end)) {
                    at = end;
                    return k - first;
                }
            }
            fail(CANNOT_STAND, at);
            return NONE;
        }

        private boolean isSpelled(String word, int end) {
            if (word.length() != end - at) {
                return false;
            }
            for (int k = 0; k < word.length(); k++) {
                if (word.charAt(k) != text[at + k]) {
                    return false;
                }
            }
            return true;
        }

        private int takeNumber(int most) {
            skipBlanks();
            start = at;
            int end = at;
            int number = 0;
            for (; end < length && text[end] >= '0' && text[end] <= '9'; end++) {
                if (end - start < MOST_FIGURES) {
                    number = number * 10 + text[end] - '0';
                }
            }
            if (end == start) {
                fail(CANNOT_STAND, start);
            } else if (end - start > MOST_FIGURES || number > most) {
                fail(BAD_NUMBER, start);
            }
            at = end;
            return number;
        }

        private void skipBlanks() {
            while (at < length && text[at] == ' ') {
                at++;
            }
        }

        private void fail(int number, int where) {
            fault = number;
            faultAt = where;
        }

        private static String spelling(int k) {
            switch (k) {
                case 0: return "rent";
                case 1: return "title";
                case 2: return "stop";
                case 3: return "bear";
                case 4: return "beyond";
                case 5: return "rent";
                case 6: return "bank";
                case 7: return "seller";
                case 8: return "owner";
                case 9: return "let";
                case 10: return "dry";
                case 11: return "rank";
                case 12: return "strike";
                default: return "by";
            }
        }
    }

    /** TERMS, and what holds on the DAY asked last. */
    private static final class Terms {
        static final int MOST_TERMS = 8;
        /** The keys rent, bank, seller, owner in their own order, as the reader writes a row. */
        static final int ALL_KEYS = 1 | 2 << 3 | 3 << 6 | 4 << 9;
        static final int[] AT_FIRST = {2, 1, 0, 10, 0, 0, 0, 0, 0, ALL_KEYS};

        final int[] day = new int[MOST_TERMS];
        final int[] clauses = new int[MOST_TERMS];
        final int[][] code = new int[MOST_TERMS][Reader.MOST_CLAUSES];
        final int[][] value = new int[MOST_TERMS][Reader.MOST_CLAUSES];
        /** TERMS by DAYS, then numbers. */
        final int[] order = new int[MOST_TERMS];
        final boolean[] isStruck = new boolean[MOST_TERMS];
        final int[] held = new int[RANK + 1];
        int heldOn = NONE;
        int count;

        int add(int itsDay, Reader reader) {
            int t = count;
            day[t] = itsDay;
            clauses[t] = reader.clauses;
            for (int c = 0; c < reader.clauses; c++) {
                code[t][c] = reader.code[c];
                value[t][c] = reader.value[c];
            }
            int place = t;
            for (; place > 0 && day[order[place - 1]] > itsDay; place--) {
                order[place] = order[place - 1];
            }
            order[place] = t;
            count++;
            heldOn = NONE;
            return t;
        }

        int on(int what, int itsDay) {
            if (heldOn != itsDay) {
                hold(itsDay);
            }
            return held[what];
        }

        int keyOn(int k, int itsDay) {
            return ((on(RANK, itsDay) >> (3 * k)) & 7) - 1;
        }

        int keysOn(int itsDay) {
            int keys = 0;
            for (int k = 0; k < KEYS; k++) {
                keys += keyOn(k, itsDay) == NONE ? 0 : 1;
            }
            return keys;
        }

        private void hold(int itsDay) {
            strike(itsDay);
            for (int k = 0; k <= RANK; k++) {
                held[k] = AT_FIRST[k];
            }
            for (int k = 0; k < count; k++) {
                int t = order[k];
                if (day[t] <= itsDay && !isStruck[t]) {
                    rule(t);
                }
            }
            heldOn = itsDay;
        }

        private void strike(int itsDay) {
            for (int t = 0; t < count; t++) {
                isStruck[t] = false;
            }
            for (int t = count - 1; t >= 0; t--) {
                boolean counts = day[t] <= itsDay && !isStruck[t];
                for (int c = 0; counts && c < clauses[t]; c++) {
                    if (code[t][c] == Reader.STRIKE) {
                        isStruck[value[t][c]] = true;
                    }
                }
            }
        }

        private void rule(int t) {
            for (int c = 0; c < clauses[t]; c++) {
                if (code[t][c] != Reader.STRIKE) {
                    held[code[t][c]] = value[t][c];
                }
            }
        }
    }

    /** THE STORY by THE BOOK of a DAY up to a DAY, as tell() was called last; rows by LINES or LOTS. */
    private static final class Story {
        private final Lots lots;
        private final Lines lines;
        private final Terms terms;
        final boolean[] there = new boolean[MOST_LINES];
        final boolean[] vain = new boolean[MOST_LINES];
        final int[] lot = new int[MOST_LINES];
        final int[] casks = new int[MOST_LINES];
        final int[] holds = new int[MOST_LINES];
        final int[] title = new int[MOST_LINES];
        final int[] lender = new int[MOST_LINES];
        final int[] sum = new int[MOST_LINES];
        final int[] stopper = new int[MOST_LINES];
        final int[] out = new int[MOST_LOTS];
        final int[] burnt = new int[MOST_LOTS];
        final int[] onPapers = new int[MOST_LOTS];
        int doubles;

        Story(Lots itsLots, Lines itsLines, Terms itsTerms) {
            lots = itsLots;
            lines = itsLines;
            terms = itsTerms;
        }

        void tell(int day, int known) {
            clear();
            lines.know(known);
            for (int k = 0; k < lines.count; k++) {
                int i = lines.order[k];
                if (lines.isInBook(i) && lines.day[i] <= day) {
                    vain[i] = !isDone(i);
                }
            }
        }

        private void clear() {
            for (int i = 0; i < lines.count; i++) {
                there[i] = false;
                vain[i] = false;
            }
            for (int l = 0; l < lots.count; l++) {
                out[l] = 0;
                burnt[l] = 0;
                onPapers[l] = 0;
            }
            doubles = 0;
        }

        private boolean isDone(int i) {
            int kind = lines.kind[i];
            int target = lines.target[i];
            boolean isOfPaper = kind != ISSUE && kind != BURNT && kind != VOID;
            if (isOfPaper && !there[target]) {
                return false;
            }
            switch (kind) {
                case ISSUE: return issue(target, i);
                case PASS: return pass(target, i);
                case PART: return divide(target, i);
                case LENT: return lend(target, i);
                case REPAID: return repay(target);
                case STOP: return stop(target, i);
                case FREED: return free(target);
                case OUT: return handOut(target, i);
                case BURNT: return burn(target, i);
                case STOLEN: return steal(target, i);
                default: return true;
            }
        }

        private boolean issue(int l, int i) {
            make(i, l, lines.n[i], lines.p[i], lines.p[i]);
            onPapers[l] += lines.n[i];
            if (overOf(l) > 0) {
                doubles++;
            }
            return true;
        }

        private void make(int w, int l, int n, int holder, int owner) {
            there[w] = true;
            lot[w] = l;
            casks[w] = n;
            holds[w] = holder;
            title[w] = owner;
            lender[w] = NONE;
            sum[w] = 0;
            stopper[w] = NONE;
        }

        private boolean burn(int l, int i) {
            if (lines.n[i] > thereOf(l)) {
                return false;
            }
            burnt[l] += lines.n[i];
            return true;
        }

        private boolean pass(int w, int i) {
            int from = lines.q[i];
            boolean isPaid = lines.n[i] == 1;
            int day = lines.day[i];
            if (holds[w] != from || (stopper[w] != NONE && terms.on(STOPS, day) == 1)) {
                return false;
            }
            if (title[w] == from || (isPaid && terms.on(TITLE, day) == 1)) {
                title[w] = lines.p[i];
            }
            holds[w] = lines.p[i];
            if (isPaid) {
                stopper[w] = NONE;
            }
            return true;
        }

        private boolean divide(int w, int i) {
            if (casks[w] <= lines.n[i] || isBound(w)) {
                return false;
            }
            casks[w] -= lines.n[i];
            make(i, lot[w], lines.n[i], holds[w], title[w]);
            return true;
        }

        private boolean isBound(int w) {
            return lender[w] != NONE || stopper[w] != NONE;
        }

        private boolean lend(int w, int i) {
            if (lender[w] != NONE || holds[w] != title[w]) {
                return false;
            }
            lender[w] = lines.p[i];
            sum[w] = lines.n[i];
            return true;
        }

        private boolean repay(int w) {
            if (lender[w] == NONE) {
                return false;
            }
            lender[w] = NONE;
            sum[w] = 0;
            return true;
        }

        private boolean stop(int w, int i) {
            if (stopper[w] != NONE) {
                return false;
            }
            stopper[w] = lines.p[i];
            return true;
        }

        private boolean free(int w) {
            if (stopper[w] == NONE) {
                return false;
            }
            stopper[w] = NONE;
            return true;
        }

        private boolean handOut(int w, int i) {
            int l = lot[w];
            int n = lines.n[i];
            if (casks[w] < n || thereOf(l) < n || isBound(w)) {
                return false;
            }
            casks[w] -= n;
            onPapers[l] -= n;
            out[l] += n;
            return true;
        }

        private boolean steal(int w, int i) {
            if (holds[w] == lines.p[i]) {
                return false;
            }
            holds[w] = lines.p[i];
            return true;
        }

        int thereOf(int l) {
            return lots.casks[l] - out[l] - burnt[l];
        }

        int overOf(int l) {
            return Math.max(0, onPapers[l] - thereOf(l));
        }

        int vainCount() {
            int all = 0;
            for (int i = 0; i < lines.count; i++) {
                all += vain[i] ? 1 : 0;
            }
            return all;
        }

        /** WARRANTS with casks, of a LOT; NONE: of all. */
        int papersWithCasks(int l) {
            int all = 0;
            for (int w = 0; w < lines.count; w++) {
                if (there[w] && casks[w] > 0 && (l == NONE || lot[w] == l)) {
                    all++;
                }
            }
            return all;
        }

        int casksOf(int house, int sort, boolean isByTitle) {
            int all = 0;
            for (int w = 0; w < lines.count; w++) {
                if (there[w] && lots.sort[lot[w]] == sort && (isByTitle ? title[w] : holds[w]) == house) {
                    all += casks[w];
                }
            }
            return all;
        }

        int lentOn(int l) {
            int all = 0;
            for (int w = 0; w < lines.count; w++) {
                if (there[w] && lot[w] == l) {
                    all += sum[w];
                }
            }
            return all;
        }

        /** How many WARRANTS another story has otherwise. */
        int unlike(Story other) {
            int all = 0;
            for (int w = 0; w < lines.count; w++) {
                boolean isInBoth = there[w] && other.there[w];
                if (isInBoth ? isHadOtherwise(other, w) : there[w] != other.there[w]) {
                    all++;
                }
            }
            return all;
        }

        private boolean isHadOtherwise(Story other, int w) {
            return holds[w] != other.holds[w] || title[w] != other.title[w];
        }
    }

    /** The fewest WARRANTS of a LOT without which there is none OVER, as find() was called last. */
    private static final class Doubt {
        private static final int TOO_FEW = MOST_LINES + 1;
        /** How many WARRANTS have so many casks, of those behind the one that is looked at. */
        private final int[] having = new int[MOST_CASKS + 1];
        private final int[] picked = new int[MOST_LINES];
        int count;

        void find(Story story, int lines, int l) {
            count = 0;
            int over = story.overOf(l);
            for (int n = 0; n <= MOST_CASKS; n++) {
                having[n] = 0;
            }
            for (int w = 0; w < lines; w++) {
                if (isOf(story, w, l)) {
                    having[story.casks[w]]++;
                }
            }
            int left = fewest(over);
            for (int w = 0; w < lines && left > 0; w++) {
                if (isOf(story, w, l)) {
                    having[story.casks[w]]--;
                    if (fewest(over - story.casks[w]) < left) {
                        over -= story.casks[w];
                        left--;
                        picked[count] = w;
                        count++;
                    }
                }
            }
        }

        private boolean isOf(Story story, int w, int l) {
            return story.there[w] && story.lot[w] == l && within(story.casks[w], 1, MOST_CASKS);
        }

        /** With the largest ones first, as few as can be have the casks wanted. */
        private int fewest(int casks) {
            int wanted = casks;
            int used = 0;
            for (int n = MOST_CASKS; n > 0 && wanted > 0; n--) {
                int take = Math.min(having[n], (wanted + n - 1) / n);
                wanted -= take * n;
                used += take;
            }
            return wanted > 0 ? TOO_FEW : used;
        }

        int at(int i) {
            return i >= 0 && i < count ? picked[i] : NONE;
        }
    }

    private static final class Weighings {
        static final int MOST = 40, MOST_IN_ALL = 199999;
        final int[] lot = new int[MOST];
        final int[] casks = new int[MOST];
        final int[] weight = new int[MOST];
        final int[] day = new int[MOST];
        int count;

        int add(int l, int n, int inAll, int now) {
            lot[count] = l;
            casks[count] = n;
            weight[count] = inAll;
            day[count] = now;
            count++;
            return count;
        }
    }

    private static final class Sales {
        static final int MOST = 24, MOST_CASKS_SOLD = 99;
        private final int[] seller = new int[MOST];
        private final int[] buyer = new int[MOST];
        private final int[] sort = new int[MOST];
        private final int[] casks = new int[MOST];
        /** NETS that are not 0; by SETS of these, their sum and the most groups of 0 within. */
        private final int[] open = new int[HOUSES];
        private final int[] total = new int[1 << HOUSES];
        private final int[] groups = new int[1 << HOUSES];
        int count;

        int add(int a, int b, int itsSort, int n) {
            seller[count] = a;
            buyer[count] = b;
            sort[count] = itsSort;
            casks[count] = n;
            count++;
            return count;
        }

        int netOf(int house, int itsSort) {
            int all = 0;
            for (int s = 0; s < count; s++) {
                if (sort[s] == itsSort) {
                    all += buyer[s] == house ? casks[s] : 0;
                    all -= seller[s] == house ? casks[s] : 0;
                }
            }
            return all;
        }

        int fewestHandings(int itsSort) {
            int houses = 0;
            for (int h = 0; h < HOUSES; h++) {
                int net = netOf(h, itsSort);
                if (net != 0) {
                    open[houses] = net;
                    houses++;
                }
            }
            return houses - mostGroups(houses);
        }

        /**
         * HOUSES put in a row one by one close a group whenever their sum so far is 0: the best
         * row of a SET is the best one of it less its last HOUSE.
         */
        private int mostGroups(int houses) {
            int sets = 1 << houses;
            total[0] = 0;
            groups[0] = 0;
            for (int set = 1; set < sets; set++) {
                int most = 0;
                int sum = 0;
                for (int h = 0; h < houses; h++) {
                    if (((set >> h) & 1) == 1) {
                        sum = total[set ^ (1 << h)] + open[h];
                        most = Math.max(most, groups[set ^ (1 << h)]);
                    }
                }
                total[set] = sum;
                groups[set] = most + (sum == 0 ? 1 : 0);
            }
            return groups[sets - 1];
        }
    }

    private static final class Dues {
        static final int MOST = 24, MOST_ROUNDS = 50;
        private final int[] debtor = new int[MOST];
        private final int[] creditor = new int[MOST];
        private final int[] sum = new int[MOST];
        private final int[] given = new int[MOST];
        int count;
        final int[] coin = new int[HOUSES];
        final int[] owes = new int[HOUSES];
        final int[] has = new int[HOUSES];
        int rounds;

        int add(int a, int b, int v) {
            debtor[count] = a;
            creditor[count] = b;
            sum[count] = v;
            count++;
            return count;
        }

        void settle() {
            begin();
            rounds = 0;
            boolean isChanged = true;
            for (int r = 0; r < MOST_ROUNDS && isChanged; r++) {
                isChanged = isRoundChanging();
                rounds += isChanged ? 1 : 0;
            }
        }

        private void begin() {
            for (int h = 0; h < HOUSES; h++) {
                owes[h] = 0;
            }
            for (int d = 0; d < count; d++) {
                given[d] = sum[d];
                owes[debtor[d]] += sum[d];
            }
            receive();
        }

        /** All give at once: has[] is filled anew only behind the whole round. */
        private boolean isRoundChanging() {
            boolean isChanged = false;
            for (int d = 0; d < count; d++) {
                int gives = partOf(sum[d], debtor[d]);
                isChanged = isChanged || gives != given[d];
                given[d] = gives;
            }
            receive();
            return isChanged;
        }

        private int partOf(int v, int house) {
            if (!isShort(house) || owes[house] <= 0) {
                return v;
            }
            return (int) ((long) v * has[house] / owes[house]);
        }

        /** Whether it FAILS by what it has now: a ROUND may leave it short that gave all in it. */
        boolean isShort(int house) {
            return has[house] < owes[house];
        }

        private void receive() {
            for (int h = 0; h < HOUSES; h++) {
                has[h] = coin[h];
            }
            for (int d = 0; d < count; d++) {
                has[creditor[d]] += given[d];
            }
        }

        int givenBy(int house) {
            int all = 0;
            for (int d = 0; d < count; d++) {
                all += debtor[d] == house ? given[d] : 0;
            }
            return all;
        }

        int shortCount() {
            int all = 0;
            for (int h = 0; h < HOUSES; h++) {
                all += isShort(h) ? 1 : 0;
            }
            return all;
        }
    }

    /**
     * THE PLAN, as lay() was called last. A price is the casks moved times OF_A_CASK, and below
     * that the FLOORS as figures to the base 6, the first LOT's highest: so the least price is the
     * first of the plans with the fewest casks, and prices of SETS of LOTS simply add up.
     */
    private static final class Plan {
        static final int MOST_LAID = 8;
        private static final long OF_A_CASK = 1679616L, NO_PLAN = 1L << 60;
        private static final int[] OF_A_FLOOR = {279936, 46656, 7776, 1296, 216, 36, 6, 1};

        private final int[] place = new int[MOST_LOTS];
        private final int[] laid = new int[MOST_LAID];
        private int count;
        /** By SETS of the LOTS that are LAID. */
        private final int[] casks = new int[1 << MOST_LAID];
        private final int[] sorts = new int[1 << MOST_LAID];
        private final long[] price = new long[1 << MOST_LAID];
        private final long[] best = new long[1 << MOST_LAID];

        void lay(int set, Lots lots, Story story, int[] room, int[] partedFrom) {
            choose(set, lots.count);
            gather(lots, story);
            int sets = 1 << count;
            for (int s = 1; s < sets; s++) {
                best[s] = NO_PLAN;
            }
            best[0] = 0;
            for (int f = 0; f < FLOORS; f++) {
                int stay = 0;
                int staySorts = 0;
                for (int l = 0; l < lots.count; l++) {
                    if (place[l] == NONE && lots.floor[l] == f) {
                        stay += story.thereOf(l);
                        staySorts |= 1 << lots.sort[l];
                    }
                }
                priceOn(f, lots, story);
                shut(room[f] - stay, staySorts, partedFrom);
                openFloor();
            }
        }

        private void choose(int set, int lots) {
            count = 0;
            for (int l = 0; l < lots; l++) {
                place[l] = NONE;
                if (((set >> l) & 1) == 1 && count < MOST_LAID) {
                    place[l] = count;
                    laid[count] = l;
                    count++;
                }
            }
        }

        private void gather(Lots lots, Story story) {
            casks[0] = 0;
            sorts[0] = 0;
            for (int k = 0; k < count; k++) {
                int l = laid[k];
                for (int s = 0; s < 1 << k; s++) {
                    casks[s | 1 << k] = casks[s] + story.thereOf(l);
                    sorts[s | 1 << k] = sorts[s] | 1 << lots.sort[l];
                }
            }
        }

        private void priceOn(int floor, Lots lots, Story story) {
            price[0] = 0;
            for (int k = 0; k < count; k++) {
                int l = laid[k];
                long own = (long) floor * OF_A_FLOOR[k];
                if (lots.floor[l] != floor) {
                    own += story.thereOf(l) * OF_A_CASK;
                }
                for (int s = 0; s < 1 << k; s++) {
                    price[s | 1 << k] = price[s] + own;
                }
            }
        }

        /** SETS that cannot be on the FLOOR whole get no price. */
        private void shut(int free, int staySorts, int[] partedFrom) {
            for (int s = 1; s < 1 << count; s++) {
                if (casks[s] > free || isParted(sorts[s], sorts[s] | staySorts, partedFrom)) {
                    price[s] = NO_PLAN;
                }
            }
        }

        private boolean isParted(int ours, int all, int[] partedFrom) {
            for (int t = 0; t < SORTS; t++) {
                if (((ours >> t) & 1) == 1 && (partedFrom[t] & all) != 0) {
                    return true;
                }
            }
            return false;
        }

        /** Larger SETS first: what is left of them is then still laid on the FLOORS before. */
        private void openFloor() {
            for (int s = (1 << count) - 1; s > 0; s--) {
                int part = s;
                for (int left = 1 << Integer.bitCount(s); left > 1; left--) {
                    if (price[part] < NO_PLAN) {
                        best[s] = Math.min(best[s], best[s ^ part] + price[part]);
                    }
                    part = (part - 1) & s;
                }
            }
        }

        boolean isFound() {
            return best[(1 << count) - 1] < NO_PLAN;
        }

        int moved() {
            return (int) (best[(1 << count) - 1] / OF_A_CASK);
        }

        int floorOf(int l) {
            if (place[l] == NONE) {
                return NONE;
            }
            return (int) (best[(1 << count) - 1] / OF_A_FLOOR[place[l]] % FLOORS);
        }
    }
}
