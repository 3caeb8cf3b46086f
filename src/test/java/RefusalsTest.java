import java.util.ArrayList;
import java.util.List;
import java.util.function.Supplier;

/**
 * Every call with every number: the last values that are taken and the first that are refused, all
 * refusals in the document's order, and that what is refused changes nothing.
 */
public final class RefusalsTest {
    private static final int NONE = -1, UNKNOWN = -1001, OUTSIDE = -1002, NOT = -1003, FULL = -1004;
    private static final int MIN = Integer.MIN_VALUE, MAX = Integer.MAX_VALUE;
    /** So that what a world is made by, what is refused and what is looked at stay below 512 calls. */
    private static final int MOST_REFUSED_AT_ONCE = 100;
    private static final int TAKEN = 0;

    private interface Call {
        int of(WharfPapers x, int[] a);
    }

    /** A number of a call: values that are taken, values that are refused, and how. */
    private record Par(int refusal, int[] good, int[] bad) { }

    public static void main(String[] args) {
        lotsAndFloors();
        lines();
        linesInFull();
        booksAndCounts();
        terms();
        papers();
        papersThatAreNotThere();
        money();
        sales();
        dues();
        floors();
        oneHouseTwice();
        Check.end();
    }

    private static Par bounds(int least, int most) {
        return new Par(OUTSIDE, new int[] {least, most}, new int[] {least - 1, most + 1, MIN, MAX});
    }

    private static Par known(int least, int most) {
        return new Par(UNKNOWN, new int[] {least, most}, new int[] {least - 1, most + 1, MIN, MAX});
    }

    /** A number that is not looked at, or has no bounds. */
    private static Par free() {
        return new Par(0, new int[] {0, -1, MIN, MAX}, new int[0]);
    }

    private static Par is(int value) {
        return new Par(0, new int[] {value}, new int[0]);
    }

    private static Par house() {
        return known(0, 7);
    }

    private static Par anyDay() {
        return bounds(0, 2000);
    }

    // ---- worlds

    /** NOW is 20; LOTS 0 to 2, LINES 0 to 5 (0 and 2 are WARRANTS), and one at least of all else. */
    private static WharfPapers world() {
        WharfPapers x = new WharfPapers();
        x.lot(0, 10, 100, 0, 0);
        x.go(5);
        x.lot(1, 20, 200, 1, 1);
        x.lot(2, 30, 300, 2, 2);
        x.go(15);
        x.line(0, 10, 0, 1, 0, 8);
        x.line(8, 11, 0, 0, 0, 4);
        x.line(2, 12, 0, 0, 0, 3);
        x.line(9, 13, 2, 5, 0, 0);
        x.line(5, 14, 2, 6, 0, 0);
        x.line(10, 15, 4, 0, 0, 0);
        Check.term(x, "let rent 3;", 0);
        Check.term(x, "let rant 3;", 0);
        Check.feed(x, "let bear 7;");
        x.weigh(0, 2, 150);
        x.unpaid(3, 1, 50);
        x.sale(0, 1, 2, 5);
        x.due(4, 5, 30);
        x.coin(4, 20);
        x.room(3, 33);
        x.part(0, 1, true);
        return x;
    }

    private static WharfPapers fullOfLots() {
        WharfPapers x = world();
        for (int l = 3; l < 12; l++) {
            x.lot(l % 4, l, l, l % 8, l % 6);
        }
        return x;
    }

    private static WharfPapers fullOfLines() {
        WharfPapers x = world();
        for (int i = 6; i < 120; i++) {
            x.line(8, 0, 1, 0, 0, 1);
        }
        return x;
    }

    private static WharfPapers textOf(int bytes) {
        WharfPapers x = world();
        for (int have = 11; have < bytes; have++) {
            x.feed(1, ' ');
        }
        return x;
    }

    private static WharfPapers fullOfTerms() {
        WharfPapers x = world();
        for (int t = 1; t < 8; t++) {
            x.term(2000);
        }
        Check.feed(x, "let bear 8;");
        return x;
    }

    private static WharfPapers fullOfWeighings() {
        WharfPapers x = world();
        for (int i = 1; i < 40; i++) {
            x.weigh(2, 1, i);
        }
        return x;
    }

    private static WharfPapers fullOfSales() {
        WharfPapers x = world();
        for (int i = 1; i < 24; i++) {
            x.sale(i % 7, 7, 1, i);
        }
        return x;
    }

    private static WharfPapers fullOfDues() {
        WharfPapers x = world();
        for (int i = 1; i < 24; i++) {
            x.due(i % 7, 7, i);
        }
        return x;
    }

    private static WharfPapers withoutRoom() {
        WharfPapers x = world();
        for (int f = 0; f < 6; f++) {
            x.room(f, 0);
        }
        return x;
    }

    // ---- what is to be seen of a world

    private static List<Integer> sight(WharfPapers x) {
        List<Integer> all = new ArrayList<>();
        for (int what = 0; what < 12; what++) {
            all.add(x.count(what));
        }
        int now = x.count(0);
        int last = x.count(2) - 1;
        for (int what = 0; what < 9; what++) {
            all.add(x.told(last, what));
            all.add(x.book(now, what));
            all.add(x.paper(2, now, now, what));
            all.add(x.goods(0, now, now, what));
            all.add(x.goods(1, now, now, what));
        }
        for (int what = 0; what < 14; what++) {
            all.add(x.force(what, now));
        }
        for (int l = 0; l < 3; l++) {
            all.add(x.rent(l, 100));
            all.add(x.weight(l, 100));
            all.add(x.plan(1 << l, l));
            all.add(x.money(l, 9999, 100, 2));
        }
        all.add(x.loss(x.count(11) - 1, 0));
        all.add(x.fault());
        sightOfHouses(x, all);
        for (int f = 0; f < 6; f++) {
            all.add(x.room(f, 999));
            all.add(x.move(0, f));
        }
        for (int s = 1; s < 4; s++) {
            all.add(x.part(s, s - 1, false));
        }
        all.add(x.term(0));
        all.add(x.fault());
        all.add(x.force(3, 0));
        return all;
    }

    private static void sightOfHouses(WharfPapers x, List<Integer> all) {
        for (int h = 0; h < 8; h++) {
            for (int k = 0; k < 4; k++) {
                all.add(x.net(h, k));
                all.add(x.fails(h, k));
            }
            all.add(x.stock(h, 0, 0));
            all.add(x.stock(h, 0, 1));
            all.add(x.unpaid(h, 1, 0));
            all.add(x.coin(h, 0));
        }
    }

    // ---- holding a call to its numbers

    private static void hold(String name, Supplier<WharfPapers> world, int due, Call call, Par... pars) {
        List<int[]> refused = new ArrayList<>();
        List<Integer> how = new ArrayList<>();
        for (int[] a : mixes(pars)) {
            int want = worst(a, pars, due);
            if (want == TAKEN) {
                int got = call.of(world.get(), a);
                Check.holds(named(name, a) + " is taken, not " + got, got < FULL || got > UNKNOWN);
            } else {
                refused.add(a);
                how.add(want);
            }
        }
        List<Integer> before = sight(world.get());
        for (int from = 0; from < refused.size(); from += MOST_REFUSED_AT_ONCE) {
            WharfPapers x = world.get();
            for (int k = from; k < Math.min(refused.size(), from + MOST_REFUSED_AT_ONCE); k++) {
                Check.due(named(name, refused.get(k)), call.of(x, refused.get(k)), how.get(k));
            }
            Check.holds("what " + name + " refused changed nothing", before.equals(sight(x)));
        }
    }

    private static String named(String name, int[] a) {
        StringBuilder text = new StringBuilder(name);
        for (int k = 0; k < a.length; k++) {
            text.append(k == 0 ? "(" : ", ").append(a[k]);
        }
        return text.append(')').toString();
    }

    /** All mixes of values at the edges, and the farthest values one at a time. */
    private static List<int[]> mixes(Par[] pars) {
        List<int[]> all = new ArrayList<>();
        all.add(new int[pars.length]);
        for (int k = 0; k < pars.length; k++) {
            List<int[]> next = new ArrayList<>();
            for (int[] a : all) {
                for (int v : atTheEdge(pars[k])) {
                    int[] b = a.clone();
                    b[k] = v;
                    next.add(b);
                }
            }
            all = next;
        }
        for (int k = 0; k < pars.length; k++) {
            addOneByOne(all, pars, k, pars[k].good);
            addOneByOne(all, pars, k, pars[k].bad);
        }
        return all;
    }

    private static void addOneByOne(List<int[]> all, Par[] pars, int k, int[] values) {
        for (int v : values) {
            int[] a = new int[pars.length];
            for (int j = 0; j < pars.length; j++) {
                a[j] = pars[j].good[0];
            }
            a[k] = v;
            all.add(a);
        }
    }

    private static int[] atTheEdge(Par par) {
        int goods = Math.min(2, par.good.length);
        int bads = Math.min(2, par.bad.length);
        int[] all = new int[goods + bads];
        System.arraycopy(par.good, 0, all, 0, goods);
        System.arraycopy(par.bad, 0, all, goods, bads);
        return all;
    }

    /** The refusal that comes first: the numbers of the refusals are in the document's order. */
    private static int worst(int[] a, Par[] pars, int due) {
        int want = due;
        for (int k = 0; k < pars.length; k++) {
            for (int v : pars[k].bad) {
                if (a[k] == v && (want == TAKEN || pars[k].refusal > want)) {
                    want = pars[k].refusal;
                }
            }
        }
        return want;
    }

    // ---- the calls

    private static void lotsAndFloors() {
        Call go = (x, a) -> x.go(a[0]);
        hold("go", RefusalsTest::world, TAKEN, go, bounds(0, 999));
        hold("go by 500 from 1500", () -> Check.onDay(1500), TAKEN, go, is(500));
        for (int n : new int[] {501, 999}) {
            Check.due("go(" + n + ") from 1500", Check.onDay(1500).go(n), NOT);
        }
        Check.due("go(1) from 2000", Check.onDay(2000).go(1), NOT);
        Check.due("go(1000) from 2000", Check.onDay(2000).go(1000), OUTSIDE);
        Check.due("go(-1) from 2000", Check.onDay(2000).go(-1), OUTSIDE);
        Check.due("go(0) from 2000", Check.onDay(2000).go(0), 2000);
        Call lot = (x, a) -> x.lot(a[0], a[1], a[2], a[3], a[4]);
        hold("lot", RefusalsTest::world, TAKEN, lot, bounds(0, 3), bounds(1, 200), bounds(1, 999), house(), known(0, 5));
        hold("lot in full", RefusalsTest::fullOfLots, FULL, lot, bounds(0, 3), bounds(1, 200), bounds(1, 999), house(), known(0, 5));
        hold("room", RefusalsTest::world, TAKEN, (x, a) -> x.room(a[0], a[1]), known(0, 5), bounds(0, 999));
        Call move = (x, a) -> x.move(a[0], a[1]);
        hold("move", RefusalsTest::world, TAKEN, move, new Par(UNKNOWN, new int[] {1, 2}, new int[] {-1, 3, 12, MIN, MAX}),
            new Par(UNKNOWN, new int[] {0, 5}, new int[] {-1, 6, MIN, MAX}));
        hold("move to where it is", RefusalsTest::world, NOT, move, new Par(UNKNOWN, new int[] {1}, new int[] {-1, 3}),
            new Par(UNKNOWN, new int[] {1}, new int[] {-1, 6}));
    }

    private static Par paperToBe() {
        return new Par(UNKNOWN, new int[] {0, 2}, new int[] {1, 6, -1, 3, 4, 5, 119, 120, MIN, MAX});
    }

    private static Par lotToBe() {
        return known(0, 2);
    }

    private static Par dayToBe() {
        return bounds(0, 20);
    }

    private static void lines() {
        hold("line of no KIND", RefusalsTest::world, OUTSIDE, (x, a) -> x.line(a[0], a[1], a[2], a[3], a[4], a[5]),
            new Par(OUTSIDE, new int[] {-1, 11}, new int[] {MIN, MAX}), free(), free(), free(), free(), free());
        linesOfAllKinds("line", RefusalsTest::world, TAKEN);
    }

    private static void linesInFull() {
        linesOfAllKinds("line in full", RefusalsTest::fullOfLines, FULL);
    }

    private static void linesOfAllKinds(String name, Supplier<WharfPapers> world, int due) {
        Par casks = bounds(1, 200);
        Par line = known(0, due == FULL ? 119 : 5);
        Par paper = due == FULL ? new Par(UNKNOWN, new int[] {0, 2}, new int[] {1, 120, -1, 119, MIN, MAX}) : paperToBe();
        linesOfKind(name, world, due, 0, lotToBe(), house(), free(), casks);
        linesOfKind(name, world, due, 1, paper, house(), house(), bounds(0, 1));
        linesOfKind(name, world, due, 2, paper, free(), free(), casks);
        linesOfKind(name, world, due, 3, paper, house(), free(), bounds(1, 9999));
        linesOfKind(name, world, due, 4, paper, free(), free(), free());
        linesOfKind(name, world, due, 5, paper, house(), free(), free());
        linesOfKind(name, world, due, 6, paper, free(), free(), free());
        linesOfKind(name, world, due, 7, paper, free(), free(), casks);
        linesOfKind(name, world, due, 8, lotToBe(), free(), free(), casks);
        linesOfKind(name, world, due, 9, paper, house(), free(), free());
        linesOfKind(name, world, due, 10, line, free(), free(), free());
    }

    private static void linesOfKind(String name, Supplier<WharfPapers> world, int due, int kind, Par target, Par p, Par q, Par n) {
        hold(name, world, due, (x, a) -> x.line(a[0], a[1], a[2], a[3], a[4], a[5]), is(kind), dayToBe(), target, p, q, n);
    }

    private static void booksAndCounts() {
        hold("told", RefusalsTest::world, TAKEN, (x, a) -> x.told(a[0], a[1]), known(0, 5), bounds(0, 8));
        hold("told of 120", RefusalsTest::fullOfLines, TAKEN, (x, a) -> x.told(a[0], a[1]), known(0, 119), bounds(0, 8));
        hold("told of none", WharfPapers::new, UNKNOWN, (x, a) -> x.told(a[0], a[1]), is(0), bounds(0, 8));
        hold("book", RefusalsTest::world, TAKEN, (x, a) -> x.book(a[0], a[1]), bounds(0, 20), free());
        hold("count", RefusalsTest::world, TAKEN, (x, a) -> x.count(a[0]), bounds(0, 11));
    }

    private static void terms() {
        Call feed = (x, a) -> x.feed(a[0], a[1]);
        hold("feed", RefusalsTest::world, TAKEN, feed, bounds(1, 8), free());
        hold("feed to 160", () -> textOf(152), TAKEN, feed, bounds(1, 8), free());
        hold("feed beyond 160", () -> textOf(160), FULL, feed, bounds(1, 8), free());
        for (int n = 1; n <= 8; n++) {
            Check.due("feed(" + n + ") to 160", textOf(160 - n).feed(n, 0), 160);
            Check.due("feed(" + n + ") to 161", textOf(161 - n).feed(n, 0), FULL);
        }
        hold("term", RefusalsTest::world, TAKEN, (x, a) -> x.term(a[0]), anyDay());
        hold("term in full", RefusalsTest::fullOfTerms, FULL, (x, a) -> x.term(a[0]), anyDay());
        hold("force", RefusalsTest::world, TAKEN, (x, a) -> x.force(a[0], a[1]), bounds(0, 13), anyDay());
    }

    private static void papers() {
        hold("paper", RefusalsTest::world, TAKEN, (x, a) -> x.paper(a[0], a[1], a[2], a[3]), paperToBe(),
            new Par(OUTSIDE, new int[] {12, 2000}, new int[] {-1, 2001, MIN, MAX}),
            new Par(OUTSIDE, new int[] {20}, new int[] {-1, 21, MIN, MAX}), bounds(0, 6));
        hold("goods", RefusalsTest::world, TAKEN, (x, a) -> x.goods(a[0], a[1], a[2], a[3]), lotToBe(), anyDay(), bounds(0, 20), bounds(0, 5));
        hold("share", RefusalsTest::world, TAKEN, (x, a) -> x.share(a[0], a[1], a[2], a[3]), paperToBe(),
            new Par(OUTSIDE, new int[] {12, 2000}, new int[] {-1, 2001, MIN, MAX}),
            new Par(OUTSIDE, new int[] {20}, new int[] {-1, 21, MIN, MAX}), bounds(0, 1));
        hold("doubt", RefusalsTest::world, TAKEN, (x, a) -> x.doubt(a[0], a[1], a[2], a[3]), lotToBe(), anyDay(), bounds(0, 20), free());
        hold("stock", RefusalsTest::world, TAKEN, (x, a) -> x.stock(a[0], a[1], a[2]), house(), bounds(0, 3), bounds(0, 1));
        hold("news", RefusalsTest::world, TAKEN, (x, a) -> x.news(a[0], a[1], a[2]), anyDay(), bounds(0, 20), bounds(0, 20));
    }

    private static void papersThatAreNotThere() {
        Par ahead = new Par(OUTSIDE, new int[] {0, 9}, new int[] {-1, 2001});
        Par unknown = new Par(OUTSIDE, new int[] {0, 19}, new int[] {-1, 21});
        Call paper = (x, a) -> x.paper(a[0], a[1], a[2], a[3]);
        Call share = (x, a) -> x.share(a[0], a[1], a[2], a[3]);
        hold("paper ahead of its DAY", RefusalsTest::world, NOT, paper, paperToBe(), ahead, bounds(0, 20), bounds(0, 6));
        hold("paper that is not known", RefusalsTest::world, NOT, paper, paperToBe(), anyDay(), unknown, bounds(0, 6));
        hold("share ahead of its DAY", RefusalsTest::world, NOT, share, paperToBe(), ahead, bounds(0, 20), bounds(0, 1));
        hold("share that is not known", RefusalsTest::world, NOT, share, paperToBe(), anyDay(), unknown, bounds(0, 1));
    }

    private static void money() {
        hold("rent", RefusalsTest::world, TAKEN, (x, a) -> x.rent(a[0], a[1]), lotToBe(), anyDay());
        hold("weight", RefusalsTest::world, TAKEN, (x, a) -> x.weight(a[0], a[1]), lotToBe(), anyDay());
        Call weigh = (x, a) -> x.weigh(a[0], a[1], a[2]);
        hold("weigh", RefusalsTest::world, TAKEN, weigh, lotToBe(), bounds(1, 200), bounds(0, 199999));
        hold("weigh in full", RefusalsTest::fullOfWeighings, FULL, weigh, lotToBe(), bounds(1, 200), bounds(0, 199999));
        hold("loss", RefusalsTest::world, TAKEN, (x, a) -> x.loss(a[0], a[1]), known(0, 0), bounds(0, 2));
        hold("loss of 40", RefusalsTest::fullOfWeighings, TAKEN, (x, a) -> x.loss(a[0], a[1]), known(0, 39), bounds(0, 2));
        hold("loss of none", WharfPapers::new, UNKNOWN, (x, a) -> x.loss(a[0], a[1]), is(0), bounds(0, 2));
        hold("unpaid", RefusalsTest::world, TAKEN, (x, a) -> x.unpaid(a[0], a[1], a[2]), house(), lotToBe(), bounds(0, 9999));
        hold("money", RefusalsTest::world, TAKEN, (x, a) -> x.money(a[0], a[1], a[2], a[3]), lotToBe(), bounds(0, 99999), anyDay(), bounds(0, 4));
    }

    private static void sales() {
        Par seller = new Par(UNKNOWN, new int[] {1, 7}, new int[] {-1, 8, MIN, MAX});
        Par buyer = new Par(UNKNOWN, new int[] {0, 6}, new int[] {-1, 8, MIN, MAX});
        Call sale = (x, a) -> x.sale(a[0], a[1], a[2], a[3]);
        hold("sale", RefusalsTest::world, TAKEN, sale, seller, buyer, bounds(0, 3), bounds(1, 99));
        hold("sale the other way", RefusalsTest::world, TAKEN, sale, buyer, seller, bounds(0, 3), bounds(1, 99));
        hold("sale in full", RefusalsTest::fullOfSales, FULL, sale, seller, buyer, bounds(0, 3), bounds(1, 99));
        hold("net", RefusalsTest::world, TAKEN, (x, a) -> x.net(a[0], a[1]), house(), bounds(0, 3));
        hold("handings", RefusalsTest::world, TAKEN, (x, a) -> x.handings(a[0]), bounds(0, 3));
    }

    private static void dues() {
        Par debtor = new Par(UNKNOWN, new int[] {1, 7}, new int[] {-1, 8, MIN, MAX});
        Par creditor = new Par(UNKNOWN, new int[] {0, 6}, new int[] {-1, 8, MIN, MAX});
        Call due = (x, a) -> x.due(a[0], a[1], a[2]);
        hold("due", RefusalsTest::world, TAKEN, due, debtor, creditor, bounds(1, 9999));
        hold("due the other way", RefusalsTest::world, TAKEN, due, creditor, debtor, bounds(1, 9999));
        hold("due in full", RefusalsTest::fullOfDues, FULL, due, debtor, creditor, bounds(1, 9999));
        hold("coin", RefusalsTest::world, TAKEN, (x, a) -> x.coin(a[0], a[1]), house(), bounds(0, 9999));
        Call fails = (x, a) -> x.fails(a[0], a[1]);
        hold("fails of a HOUSE", RefusalsTest::world, TAKEN, fails, new Par(UNKNOWN, new int[] {0, 7}, new int[] {-2, 8, MIN, MAX}), bounds(0, 3));
        hold("fails of NONE", RefusalsTest::world, TAKEN, fails, is(NONE), bounds(4, 5));
        hold("fails of no HOUSE", RefusalsTest::world, UNKNOWN, fails, new Par(UNKNOWN, new int[] {-2, 8}, new int[0]), bounds(4, 5));
    }

    private static void floors() {
        Par sort = new Par(OUTSIDE, new int[] {0, 2}, new int[] {-1, 4, MIN, MAX});
        Par another = new Par(OUTSIDE, new int[] {1, 3}, new int[] {-1, 4, MIN, MAX});
        for (boolean is : new boolean[] {true, false}) {
            hold("part " + is, RefusalsTest::world, TAKEN, (x, a) -> x.part(a[0], a[1], is), sort, another);
            hold("part " + is + " the other way", RefusalsTest::world, TAKEN, (x, a) -> x.part(a[0], a[1], is), another, sort);
        }
        for (int s = 0; s < 4; s++) {
            Check.due("part of a SORT from itself", new WharfPapers().part(s, s, true), OUTSIDE);
            Check.due("part of a SORT from itself", new WharfPapers().part(s, s, false), OUTSIDE);
        }
        Call plan = (x, a) -> x.plan(a[0], a[1]);
        Par lotOrNone = new Par(UNKNOWN, new int[] {NONE, 0, 2}, new int[] {-2, 3, MIN, MAX});
        Par set = new Par(UNKNOWN, new int[] {0, 7}, new int[] {8, -1, 1 << 12, 1 << 30, MIN, MAX});
        hold("plan", RefusalsTest::world, TAKEN, plan, set, lotOrNone);
        hold("plan without ROOM", RefusalsTest::withoutRoom, NOT, plan, new Par(UNKNOWN, new int[] {1, 7}, new int[] {8, -1}), lotOrNone);
        Par lotOfTwelve = new Par(UNKNOWN, new int[] {NONE, 11}, new int[] {-2, 12, MIN, MAX});
        hold("plan of eight", RefusalsTest::fullOfLots, TAKEN, plan, new Par(UNKNOWN, new int[] {0xFF, 0xFF0}, new int[] {0x1000, MIN}),
            lotOfTwelve);
        hold("plan of nine and more", RefusalsTest::fullOfLots, OUTSIDE, plan, new Par(UNKNOWN, new int[] {0x1FF, 0xFFF}, new int[] {0x1FFF, -1}),
            lotOfTwelve);
    }

    /** UNKNOWN comes first even then; in full it is OUTSIDE before it is FULL. */
    private static void oneHouseTwice() {
        for (int h = -1; h <= 8; h++) {
            int due = h < 0 || h > 7 ? UNKNOWN : OUTSIDE;
            Check.due("sale of HOUSE " + h + " to itself", world().sale(h, h, 0, 1), due);
            Check.due("sale of HOUSE " + h + " to itself in full", fullOfSales().sale(h, h, 0, 1), due);
            Check.due("due of HOUSE " + h + " to itself", world().due(h, h, 1), due);
            Check.due("due of HOUSE " + h + " to itself in full", fullOfDues().due(h, h, 1), due);
        }
    }
}
