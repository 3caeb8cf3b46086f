import java.util.List;

/** All promises: many runs of calls, each answered by the program and by the model. */
public final class ModelTest {
    private static final int RUNS = 4000, CALLS = 512, RINGS = 300, CROWDS = 60, PILES = 200;
    /** A text is fed byte by byte at the worst, and none is longer than this. */
    private static final int MOST_AT_ONCE = 200;

    private long seed;
    private WharfPapers x;
    private Model m;
    private final StringBuilder run = new StringBuilder();
    /** Some runs keep to few DAYS, LOTS and HOUSES, so that LINES meet. */
    private int lotsWanted;
    private int housesUsed;
    private int step;
    private int wrongChance;
    private int favourite;
    private int asked;

    public static void main(String[] args) {
        for (int r = 0; r < RUNS && Check.wrongs() == 0; r++) {
            new ModelTest().oneRun(r);
        }
        for (int r = 0; r < RINGS && Check.wrongs() == 0; r++) {
            new ModelTest().oneRing(r);
        }
        for (int r = 0; r < CROWDS && Check.wrongs() == 0; r++) {
            new ModelTest().oneCrowd(r);
        }
        for (int r = 0; r < PILES && Check.wrongs() == 0; r++) {
            new ModelTest().onePile(r);
        }
        Check.end();
    }

    /** HOUSES in a ring that lose a little in each ROUND, so that 50 do not end it; some owe what trickles out. */
    private void oneRing(int r) {
        seed = r * 104729L + 5;
        x = new WharfPapers();
        m = new Model();
        int ring = 2 + pick(4);
        for (int h = 0; h < ring; h++) {
            tellDue(h, (h + 1) % ring, 9999 - pick(3));
        }
        int leaf = ring + pick(8 - ring);
        tellDue(pick(ring), leaf, 1 + pick(1500));
        if (pick(2) == 0) {
            tellDue(0, ring - 1, 1 + pick(60));
        }
        askFails();
        int owed = m.fails(leaf, 1) + pick(3);
        tellDue(leaf, leaf == 7 ? ring - 1 : 7, Math.max(1, Math.min(9999, owed)));
        askFails();
        if (Check.wrongs() > 0) {
            System.out.println("ring " + r + ":\n" + run);
        }
    }

    /** Eight LOTS and some that stay, on FLOORS with hardly ROOM for them. */
    private void oneCrowd(int r) {
        seed = r * 15485863L + 11;
        x = new WharfPapers();
        m = new Model();
        int lots = 8 + pick(5);
        int most = 2 + pick(30);
        for (int l = 0; l < lots; l++) {
            tellLot(pick(4), 1 + pick(most), 1, 0, pick(1 + pick(6)));
        }
        for (int f = 0; f < 6; f++) {
            tellRoom(f, lots * most / 24 + pick(1 + most));
        }
        for (int k = pick(3); k > 0; k--) {
            tellPart(pick(4), pick(4), true);
        }
        tellLine(8, 0, pick(lots), 0, 0, 1 + pick(most));
        int set = (1 << lots) - 1;
        while (Integer.bitCount(set) > 8) {
            set &= ~(1 << pick(lots));
        }
        int[] plan = m.planOf(set);
        for (int i = -1; i < lots; i++) {
            int due = plan == null ? Model.NOT : i < 0 ? plan[lots] : (set >> i & 1) == 1 ? plan[i] : Model.NONE;
            same("plan(" + set + ", " + i + ")", x.plan(set, i), due);
        }
        if (Check.wrongs() > 0) {
            System.out.println("crowd " + r + ":\n" + run);
        }
    }

    /** Many WARRANTS on few casks: DOUBT and SHARE of them all. */
    private void onePile(int r) {
        seed = r * 32452843L + 3;
        x = new WharfPapers();
        m = new Model();
        tellLot(0, 1 + pick(200), 1, 0, 0);
        int papers = 13 + pick(100);
        int most = 1 + pick(pick(2) == 0 ? 6 : 200);
        for (int k = 0; k < papers; k++) {
            tellLine(0, 0, 0, pick(8), 0, 1 + pick(most));
        }
        for (int k = pick(8); k > 0; k--) {
            int kind = pick(2) == 0 ? 2 : pick(2) == 0 ? 7 : 8;
            tellLine(kind, 0, kind == 8 ? 0 : pick(papers), 0, 0, 1 + pick(most));
        }
        List<Integer> due = m.inDoubt(0, 0, 0);
        same("doubt(0, 0, 0, -1)", x.doubt(0, 0, 0, -1), due.size());
        for (int i = 0; i <= due.size(); i++) {
            same("doubt(0, 0, 0, " + i + ")", x.doubt(0, 0, 0, i), i < due.size() ? due.get(i) : Model.NONE);
        }
        for (int k = 0; k < 20; k++) {
            int w = pick(papers), what = pick(2);
            same("share(" + w + ", 0, 0, " + what + ")", x.share(w, 0, 0, what), m.share(w, 0, 0, what));
        }
        if (Check.wrongs() > 0) {
            System.out.println("pile " + r + ":\n" + run);
        }
    }

    private void tellDue(int a, int b, int v) {
        same("due(" + a + ", " + b + ", " + v + ")", x.due(a, b, v), m.due(a, b, v));
    }

    private void askFails() {
        for (int house = 0; house < 8; house++) {
            for (int what = 0; what < 4; what++) {
                same("fails(" + house + ", " + what + ")", x.fails(house, what), m.fails(house, what));
            }
        }
        same("fails(-1, 4)", x.fails(-1, 4), m.fails(-1, 4));
        same("fails(-1, 5)", x.fails(-1, 5), m.fails(-1, 5));
    }

    private void oneRun(int r) {
        seed = r * 7919L + 17;
        x = new WharfPapers();
        m = new Model();
        lotsWanted = 1 + pick(r % 3 == 0 ? 12 : 3);
        housesUsed = 2 + pick(7);
        step = 1 + pick(r % 5 == 0 ? 999 : 6);
        wrongChance = pick(4) == 0 ? 6 : 40;
        favourite = pick(7);
        int calls = r % 50 == 0 ? CALLS : 40 + pick(120);
        for (int k = 0; k < calls && asked < CALLS - MOST_AT_ONCE && Check.wrongs() == 0; k++) {
            call();
        }
        if (Check.wrongs() > 0) {
            System.out.println("run " + r + ":\n" + run);
        }
    }

    private int pick(int n) {
        seed = seed * 6364136223846793005L + 1442695040888963407L;
        return (int) ((seed >>> 33) % n);
    }

    /** A number of low .. high; now and then one beyond, or far beyond. */
    private int num(int low, int high) {
        if (pick(wrongChance) == 0) {
            switch (pick(6)) {
                case 0: return low - 1;
                case 1: return high + 1;
                case 2: return low;
                case 3: return high;
                case 4: return pick(2) == 0 ? Integer.MAX_VALUE : Integer.MIN_VALUE;
                default: return pick(4000) - 2000;
            }
        }
        return high < low ? low : low + pick(high - low + 1);
    }

    private int house() {
        return pick(wrongChance) == 0 ? num(0, 7) : pick(housesUsed);
    }

    private int lot() {
        return num(0, m.lots.size() - 1);
    }

    private int pastDay() {
        return pick(3) == 0 ? m.now : num(0, m.now);
    }

    private int anyDay() {
        return pick(4) == 0 ? num(0, 2000) : num(0, Math.min(2000, m.now + 20));
    }

    private int paper() {
        if (pick(wrongChance) == 0 || m.lines.isEmpty()) {
            return num(0, m.lines.size() - 1);
        }
        for (int k = 0; k < 20; k++) {
            int w = pick(m.lines.size());
            if (!m.noPaper(w)) {
                return w;
            }
        }
        return 0;
    }

    private void same(String call, long got, long want) {
        asked++;
        run.append(call).append(" -> ").append(want).append('\n');
        Check.due(call, got, want);
    }

    private void call() {
        int which = pick(3) == 0 ? favourite : pick(7);
        switch (which) {
            case 0: tellLines(); break;
            case 1: askPapers(); break;
            case 2: askBook(); break;
            case 3: tellTerms(); break;
            case 4: askMoney(); break;
            case 5: tradeOrFail(); break;
            default: floors(); break;
        }
    }

    private void tellLines() {
        if (m.lots.size() < lotsWanted || pick(60) == 0) {
            int sort = num(0, 3), n = pick(3) == 0 ? num(1, 200) : num(1, 12), weight = num(1, 999), house = num(0, 7), floor = num(0, 5);
            tellLot(sort, n, weight, house, floor);
        }
        if (pick(5) == 0) {
            int n = num(0, step);
            same("go(" + n + ")", x.go(n), m.go(n));
        }
        int kind = pick(4) == 0 ? 0 : pick(3) == 0 ? 1 : num(0, 10);
        int target = kind == 0 || kind == 8 ? lot() : kind == 10 ? num(0, m.lines.size() - 1) : paper();
        int day = pastDay();
        int p = house();
        int q = house();
        if (kind == 1 && pick(4) != 0) {
            Model.Paper held = m.noPaper(target) ? null : m.story(day, m.now).papers.get(target);
            q = held == null ? q : held.holds;
        }
        int n = kind == 1 ? num(0, 1) : kind == 3 ? num(1, 9999) : pick(8) == 0 ? num(1, 200) : num(1, 8);
        tellLine(kind, day, target, p, q, n);
    }

    private void tellLot(int sort, int n, int weight, int house, int floor) {
        same("lot(" + sort + ", " + n + ", " + weight + ", " + house + ", " + floor + ")",
            x.lot(sort, n, weight, house, floor), m.lot(sort, n, weight, house, floor));
    }

    private void tellLine(int kind, int day, int target, int p, int q, int n) {
        same("line(" + kind + ", " + day + ", " + target + ", " + p + ", " + q + ", " + n + ")",
            x.line(kind, day, target, p, q, n), m.line(kind, day, target, p, q, n));
    }

    private void tellRoom(int floor, int v) {
        same("room(" + floor + ", " + v + ")", x.room(floor, v), m.room(floor, v));
    }

    private void tellPart(int s, int t, boolean is) {
        same("part(" + s + ", " + t + ", " + is + ")", x.part(s, t, is), m.part(s, t, is));
    }

    private void askPapers() {
        int w = paper(), l = lot(), day = anyDay(), known = pastDay();
        switch (pick(6)) {
            case 0:
                int what = num(0, 6);
                same("paper(" + w + ", " + day + ", " + known + ", " + what + ")", x.paper(w, day, known, what), m.paper(w, day, known, what));
                break;
            case 1:
                int what1 = num(0, 5);
                same("goods(" + l + ", " + day + ", " + known + ", " + what1 + ")", x.goods(l, day, known, what1), m.goods(l, day, known, what1));
                break;
            case 2:
                int what2 = num(0, 1);
                same("share(" + w + ", " + day + ", " + known + ", " + what2 + ")", x.share(w, day, known, what2), m.share(w, day, known, what2));
                break;
            case 3:
                int i = num(-1, 3);
                same("doubt(" + l + ", " + day + ", " + known + ", " + i + ")", x.doubt(l, day, known, i), m.doubt(l, day, known, i));
                break;
            case 4:
                int house = house(), sort = num(0, 3), what4 = num(0, 1);
                same("stock(" + house + ", " + sort + ", " + what4 + ")", x.stock(house, sort, what4), m.stock(house, sort, what4));
                break;
            default:
                int b = pastDay();
                same("news(" + day + ", " + known + ", " + b + ")", x.news(day, known, b), m.news(day, known, b));
                break;
        }
    }

    private void askBook() {
        switch (pick(3)) {
            case 0:
                int i = num(0, m.lines.size() - 1), what = num(0, 8);
                same("told(" + i + ", " + what + ")", x.told(i, what), m.told(i, what));
                break;
            case 1:
                int known = pastDay(), k = num(0, m.lines.size());
                same("book(" + known + ", " + k + ")", x.book(known, k), m.book(known, k));
                break;
            default:
                int what2 = num(0, 11);
                same("count(" + what2 + ")", x.count(what2), m.count(what2));
                break;
        }
    }

    private String clause() {
        String[] names = {"rent", "title", "stop", "bear", "beyond", "rank", "bent"};
        String[] keys = {"rent", "bank", "seller", "owner", "title"};
        String gap = pick(3) == 0 ? "  " : " ";
        switch (pick(8)) {
            case 0: return "dry" + gap + num(0, 3) + gap + "by" + gap + pick(pick(9) == 0 ? 2000 : 60) + ";";
            case 1: {
                StringBuilder text = new StringBuilder("rank");
                int many = 1 + pick(4), first = pick(4);
                for (int k = 0; k < many; k++) {
                    text.append(k == 0 ? gap : ",").append(keys[pick(9) == 0 ? pick(5) : (first + k * (pick(30) == 0 ? 2 : 1)) % 4]);
                }
                return text.append(";").toString();
            }
            case 2: return "strike " + pick(Math.max(1, m.terms.size() + (pick(6) == 0 ? 2 : 0))) + gap + ";";
            default:
                int name = pick(20) == 0 ? pick(7) : pick(5);
                int value = pick(20) == 0 ? pick(20000) : name == 0 || name == 3 ? pick(99) : pick(2);
                return "let" + gap + names[name] + gap + value + ";" + (pick(4) == 0 ? gap : "");
        }
    }

    private String text() {
        StringBuilder text = new StringBuilder();
        int many = pick(10) == 0 ? 10 + pick(3) : pick(4);
        for (int k = 0; k < many && text.length() < 150; k++) {
            text.append(many > 8 && pick(40) != 0 ? "dry 1 by 1;" : clause());
        }
        if (pick(4) == 0 && text.length() > 0) {
            int at = pick(text.length());
            String signs = "abcdeny01259;;,, ";
            switch (pick(4)) {
                case 0: text.deleteCharAt(at); break;
                case 1: text.insert(at, signs.charAt(pick(signs.length()))); break;
                case 2: text.setCharAt(at, (char) (pick(3) == 0 ? pick(256) : signs.charAt(pick(signs.length())))); break;
                default: text.setLength(at); break;
            }
        }
        return text.toString();
    }

    private void tellTerms() {
        if (pick(3) == 0) {
            int what = num(0, 13), day = anyDay();
            same("force(" + what + ", " + day + ")", x.force(what, day), m.force(what, day));
            return;
        }
        // TERMS come rarely, or all eight are there at once
        if (pick(3) != 0 && favourite != 3) {
            return;
        }
        String text = text();
        for (int from = 0; from < text.length(); ) {
            int n = pick(wrongChance) == 0 ? num(1, 8) : 1 + pick(8);
            int taken = Math.max(1, Math.min(8, n));
            long bytes = pick(5) == 0 ? -1L : 0L;
            for (int k = 0; k < taken; k++) {
                bytes = bytes << 8 | (from + k < text.length() ? text.charAt(from + k) : ' ');
            }
            same("feed(" + n + ", " + bytes + "L)", x.feed(n, bytes), m.feed(n, bytes));
            from += taken;
        }
        int day = anyDay();
        same("term(" + day + ")", x.term(day), m.term(day));
        same("fault()", x.fault(), m.fault());
        same("count(10)", x.count(10), m.count(10));
    }

    private void askMoney() {
        int l = lot(), day = anyDay();
        switch (pick(6)) {
            case 0:
                same("rent(" + l + ", " + day + ")", x.rent(l, day), m.rent(l, day));
                break;
            case 1:
                same("weight(" + l + ", " + day + ")", x.weight(l, day), m.weight(l, day));
                break;
            case 2:
                int n = num(1, 200);
                int ought = m.noLot(l) ? 0 : Math.max(0, n % 1000) * m.weight(l, m.now);
                int weight = pick(3) == 0 ? num(0, 199999) : Math.max(0, ought - pick(ought / 50 + 2) + 1);
                same("weigh(" + l + ", " + n + ", " + weight + ")", x.weigh(l, n, weight), m.weigh(l, n, weight));
                break;
            case 3:
                int i = num(0, m.weighings.size() - 1), what = num(0, 2);
                same("loss(" + i + ", " + what + ")", x.loss(i, what), m.loss(i, what));
                break;
            case 4:
                int house = house(), v = num(0, pick(2) == 0 ? 50 : 9999);
                same("unpaid(" + house + ", " + l + ", " + v + ")", x.unpaid(house, l, v), m.unpaid(house, l, v));
                break;
            default:
                int sum = pick(2) == 0 ? num(0, 99999) : num(0, 500), what5 = num(0, 4);
                same("money(" + l + ", " + sum + ", " + day + ", " + what5 + ")", x.money(l, sum, day, what5), m.money(l, sum, day, what5));
                break;
        }
    }

    private void tradeOrFail() {
        int a = house(), b = house(), sort = pick(2) == 0 ? num(0, 3) : 0;
        switch (pick(6)) {
            case 0:
                int n = pick(3) == 0 ? num(1, 99) : num(1, 5);
                same("sale(" + a + ", " + b + ", " + sort + ", " + n + ")", x.sale(a, b, sort, n), m.sale(a, b, sort, n));
                break;
            case 1:
                same("net(" + a + ", " + sort + ")", x.net(a, sort), m.net(a, sort));
                break;
            case 2:
                same("handings(" + sort + ")", x.handings(sort), m.handings(sort));
                break;
            case 3:
                int v = pick(2) == 0 ? num(1, 9999) : num(1, 60);
                same("due(" + a + ", " + b + ", " + v + ")", x.due(a, b, v), m.due(a, b, v));
                break;
            case 4:
                int c = pick(2) == 0 ? num(0, 9999) : num(0, 40);
                same("coin(" + a + ", " + c + ")", x.coin(a, c), m.coin(a, c));
                break;
            default:
                int house = pick(3) == 0 ? -1 : a, what = house == -1 ? num(4, 5) : num(0, 3);
                same("fails(" + house + ", " + what + ")", x.fails(house, what), m.fails(house, what));
                break;
        }
    }

    private void floors() {
        switch (pick(5)) {
            case 0:
                int floor = num(0, 5), v = pick(2) == 0 ? num(0, 999) : num(0, 30);
                tellRoom(floor, v);
                break;
            case 1:
                int l = lot(), to = num(0, 5);
                same("move(" + l + ", " + to + ")", x.move(l, to), m.move(l, to));
                break;
            case 2:
                int s = num(0, 3), t = num(0, 3);
                boolean is = pick(3) != 0;
                tellPart(s, t, is);
                break;
            default:
                int set = pick(wrongChance) == 0 ? num(0, 8191) : pick(1 << m.lots.size());
                for (int k = 0; k < 12 && pick(40) != 0 && Integer.bitCount(set) > 5; k++) {
                    set &= set - 1;
                }
                int i = pick(3) == 0 ? -1 : lot();
                same("plan(" + set + ", " + i + ")", x.plan(set, i), m.plan(set, i));
                break;
        }
    }
}
