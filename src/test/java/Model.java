import java.util.ArrayList;
import java.util.Arrays;
import java.util.Comparator;
import java.util.List;
import java.util.TreeMap;

/**
 * The document told once more in the slowest and plainest way: nothing is kept but what was said,
 * every answer is found anew by trying all there is. It shares no code with the program.
 */
final class Model {
    static final int NONE = -1, UNKNOWN = -1001, OUTSIDE = -1002, NOT = -1003, FULL = -1004;

    record Lot(int sort, int n, int weight, int since) { }

    record Line(int kind, int day, int told, int target, int p, int q, int n) { }

    record Clause(String what, int value, List<Integer> keys) { }

    record Term(int day, List<Clause> clauses) { }

    record Weighing(int lot, int n, int weight, int day) { }

    record Four(int a, int b, int c, int d) { }

    static final class Paper {
        int lot, casks, holds, title, lender = NONE, sum, stopper = NONE;
    }

    static final class Told {
        final TreeMap<Integer, Paper> papers = new TreeMap<>();
        final List<Integer> vain = new ArrayList<>();
        final int[] out = new int[12];
        final int[] burnt = new int[12];
        int doubles;
    }

    int now;
    final List<Lot> lots = new ArrayList<>();
    final List<Integer> floors = new ArrayList<>();
    final List<Line> lines = new ArrayList<>();
    final List<Term> terms = new ArrayList<>();
    final List<Weighing> weighings = new ArrayList<>();
    final List<Four> sales = new ArrayList<>();
    final List<Four> dues = new ArrayList<>();
    final int[] room = {200, 200, 200, 200, 200, 200};
    final int[] coin = new int[8];
    final int[][] unpaid = new int[8][12];
    final boolean[][] parted = new boolean[4][4];
    String text = "";
    int faultAt = NONE;

    static boolean in(int v, int a, int b) {
        return a <= v && v <= b;
    }

    boolean noLot(int l) {
        return !in(l, 0, lots.size() - 1);
    }

    static boolean noHouse(int h) {
        return !in(h, 0, 7);
    }

    boolean noPaper(int w) {
        return !in(w, 0, lines.size() - 1) || lines.get(w).kind != 0 && lines.get(w).kind != 2;
    }

    int go(int n) {
        return !in(n, 0, 999) ? OUTSIDE : now + n > 2000 ? NOT : (now += n);
    }

    int lot(int sort, int n, int weight, int house, int floor) {
        if (noHouse(house) || !in(floor, 0, 5)) return UNKNOWN;
        if (!in(sort, 0, 3) || !in(n, 1, 200) || !in(weight, 1, 999)) return OUTSIDE;
        if (lots.size() == 12) return FULL;
        lots.add(new Lot(sort, n, weight, now));
        floors.add(floor);
        return lots.size() - 1;
    }

    int room(int floor, int v) {
        if (!in(floor, 0, 5)) return UNKNOWN;
        if (!in(v, 0, 999)) return OUTSIDE;
        int was = room[floor];
        room[floor] = v;
        return was;
    }

    int move(int l, int floor) {
        if (noLot(l) || !in(floor, 0, 5)) return UNKNOWN;
        return floors.get(l) == floor ? NOT : floors.set(l, floor);
    }

    int line(int kind, int day, int target, int p, int q, int n) {
        if (!in(kind, 0, 10)) return OUTSIDE;
        boolean aboutLot = kind == 0 || kind == 8;
        boolean hasP = kind == 0 || kind == 1 || kind == 3 || kind == 5 || kind == 9;
        boolean hasN = kind <= 3 || kind == 7 || kind == 8;
        if (aboutLot && noLot(target)) return UNKNOWN;
        if (kind == 10 && !in(target, 0, lines.size() - 1)) return UNKNOWN;
        if (!aboutLot && kind != 10 && noPaper(target)) return UNKNOWN;
        if (hasP && noHouse(p) || kind == 1 && noHouse(q)) return UNKNOWN;
        if (!in(day, 0, now)) return OUTSIDE;
        if (hasN && !in(n, kind == 1 ? 0 : 1, kind == 1 ? 1 : kind == 3 ? 9999 : 200)) return OUTSIDE;
        if (lines.size() == 120) return FULL;
        lines.add(new Line(kind, day, now, target, hasP ? p : NONE, kind == 1 ? q : NONE, hasN ? n : NONE));
        return lines.size() - 1;
    }

    boolean isVoid(int i, int d) {
        for (int j = i + 1; j < lines.size(); j++) {
            Line x = lines.get(j);
            if (x.kind == 10 && x.target == i && x.told <= d && !isVoid(j, d)) return true;
        }
        return false;
    }

    List<Integer> bookOf(int d) {
        List<Integer> all = new ArrayList<>();
        for (int i = 0; i < lines.size(); i++) {
            if (lines.get(i).told <= d && !isVoid(i, d)) all.add(i);
        }
        all.sort(Comparator.comparingInt((Integer i) -> lines.get(i).day).thenComparingInt(i -> i));
        return all;
    }

    int told(int i, int what) {
        if (!in(i, 0, lines.size() - 1)) return UNKNOWN;
        Line x = lines.get(i);
        int[] easy = {x.kind, x.day, x.told, x.target, x.p, x.q, x.n};
        if (in(what, 0, 6)) return easy[what];
        if (what == 7) return isVoid(i, now) ? 1 : 0;
        return what == 8 ? (story(now, now).vain.contains(i) ? 1 : 0) : OUTSIDE;
    }

    int book(int known, int i) {
        if (!in(known, 0, now)) return OUTSIDE;
        List<Integer> all = bookOf(known);
        return in(i, 0, all.size() - 1) ? all.get(i) : NONE;
    }

    int count(int what) {
        switch (what) {
            case 0: return now;
            case 1: return lots.size();
            case 2: return lines.size();
            case 3: return lines.size() - bookOf(now).size();
            case 4: return story(now, now).vain.size();
            case 5: return (int) story(now, now).papers.values().stream().filter(p -> p.casks > 0).count();
            case 6: return story(now, now).doubles;
            case 7: return terms.size();
            case 8: return sales.size();
            case 9: return dues.size();
            case 10: return text.length();
            case 11: return weighings.size();
            default: return OUTSIDE;
        }
    }

    int feed(int n, long bytes) {
        if (!in(n, 1, 8)) return OUTSIDE;
        if (text.length() + n > 160) return FULL;
        for (int k = 8 - n; k < 8; k++) text += (char) (bytes << 8 * k >>> 56);
        return text.length();
    }

    int term(int day) {
        if (!in(day, 0, 2000)) return OUTSIDE;
        if (terms.size() == 8) return FULL;
        ModelText read = new ModelText(text, terms.size());
        text = "";
        faultAt = read.faultAt;
        if (read.fault != 0) return -10 - read.fault;
        terms.add(new Term(day, read.clauses));
        return terms.size() - 1;
    }

    int fault() {
        return faultAt;
    }

    boolean counts(int t, int day) {
        if (terms.get(t).day > day) return false;
        for (int u = t + 1; u < terms.size(); u++) {
            for (Clause c : terms.get(u).clauses) {
                if (c.what.equals("strike") && c.value == t && counts(u, day)) return false;
            }
        }
        return true;
    }

    /** The clause that rules, or null. */
    Clause ruling(String what, int day) {
        Clause best = null;
        int bestDay = -1;
        for (int t = 0; t < terms.size(); t++) {
            if (counts(t, day) && terms.get(t).day >= bestDay) {
                for (Clause c : terms.get(t).clauses) {
                    if (c.what.equals(what)) {
                        best = c;
                        bestDay = terms.get(t).day;
                    }
                }
            }
        }
        return best;
    }

    int value(String what, int day) {
        Clause c = ruling(what, day);
        return c != null ? c.value : what.equals("rent") ? 2 : what.equals("title") ? 1 : what.equals("bear") ? 10 : 0;
    }

    List<Integer> rank(int day) {
        Clause c = ruling("rank", day);
        return c != null ? c.keys : List.of(0, 1, 2, 3);
    }

    int force(int what, int day) {
        if (!in(what, 0, 13) || !in(day, 0, 2000)) return OUTSIDE;
        String[] names = {"rent", "title", "stop", "bear", "beyond", "dry0", "dry1", "dry2", "dry3"};
        if (what < 9) return value(names[what], day);
        if (what == 9) return rank(day).size();
        return what - 10 < rank(day).size() ? rank(day).get(what - 10) : NONE;
    }

    Told story(int day, int known) {
        Told s = new Told();
        for (int i : bookOf(known)) {
            Line x = lines.get(i);
            if (x.day <= day && !happens(s, i, x)) s.vain.add(i);
        }
        return s;
    }

    int there(Told s, int l) {
        return lots.get(l).n - s.out[l] - s.burnt[l];
    }

    int onPapers(Told s, int l) {
        return s.papers.values().stream().filter(p -> p.lot == l).mapToInt(p -> p.casks).sum();
    }

    boolean happens(Told s, int i, Line x) {
        if (x.kind == 10) return true;
        if (x.kind == 8) {
            if (x.n > there(s, x.target)) return false;
            s.burnt[x.target] += x.n;
            return true;
        }
        if (x.kind == 0) {
            Paper made = new Paper();
            made.lot = x.target;
            made.casks = x.n;
            made.holds = x.p;
            made.title = x.p;
            s.papers.put(i, made);
            if (onPapers(s, x.target) > there(s, x.target)) s.doubles++;
            return true;
        }
        Paper w = s.papers.get(x.target);
        return w != null && happensTo(s, w, i, x);
    }

    boolean happensTo(Told s, Paper w, int i, Line x) {
        boolean lent = w.lender != NONE;
        boolean stopped = w.stopper != NONE;
        switch (x.kind) {
            case 1:
                if (w.holds != x.q) return false;
                if (stopped && value("stop", x.day) == 1) return false;
                w.holds = x.p;
                if (w.title == x.q) w.title = x.p;
                else if (x.n == 1 && value("title", x.day) == 1) w.title = x.p;
                if (x.n == 1) w.stopper = NONE;
                return true;
            case 2:
                if (!(w.casks > x.n) || lent || stopped) return false;
                Paper made = new Paper();
                made.lot = w.lot;
                made.casks = x.n;
                made.holds = w.holds;
                made.title = w.title;
                w.casks -= x.n;
                s.papers.put(i, made);
                return true;
            case 3:
                if (lent || w.holds != w.title) return false;
                w.lender = x.p;
                w.sum = x.n;
                return true;
            case 4:
                w.lender = NONE;
                w.sum = 0;
                return lent;
            case 5:
                if (!stopped) w.stopper = x.p;
                return !stopped;
            case 6:
                w.stopper = NONE;
                return stopped;
            case 7:
                if (w.casks < x.n || there(s, w.lot) < x.n || lent || stopped) return false;
                w.casks -= x.n;
                s.out[w.lot] += x.n;
                return true;
            default:
                if (w.holds == x.p) return false;
                w.holds = x.p;
                return true;
        }
    }

    int paper(int w, int day, int known, int what) {
        if (noPaper(w)) return UNKNOWN;
        if (!in(day, 0, 2000) || !in(known, 0, now) || !in(what, 0, 6)) return OUTSIDE;
        Paper p = story(day, known).papers.get(w);
        return p == null ? NOT : new int[] {p.casks, p.holds, p.title, p.lender, p.sum, p.stopper, p.lot}[what];
    }

    int goods(int l, int day, int known, int what) {
        if (noLot(l)) return UNKNOWN;
        if (!in(day, 0, 2000) || !in(known, 0, now) || !in(what, 0, 5)) return OUTSIDE;
        Told s = story(day, known);
        int with = (int) s.papers.values().stream().filter(p -> p.lot == l && p.casks > 0).count();
        int on = onPapers(s, l);
        return new int[] {there(s, l), s.out[l], s.burnt[l], on, Math.max(0, on - there(s, l)), with}[what];
    }

    int share(int w, int day, int known, int what) {
        if (noPaper(w)) return UNKNOWN;
        if (!in(day, 0, 2000) || !in(known, 0, now) || !in(what, 0, 1)) return OUTSIDE;
        Told s = story(day, known);
        Paper p = s.papers.get(w);
        if (p == null) return NOT;
        int up = p.casks;
        int low = 1;
        if (onPapers(s, p.lot) > there(s, p.lot)) {
            up = p.casks * there(s, p.lot);
            low = onPapers(s, p.lot);
        }
        for (int d = low; d > 1; d--) {
            if (up % d == 0 && low % d == 0) {
                up /= d;
                low /= d;
            }
        }
        return what == 0 ? up : low;
    }

    int doubt(int l, int day, int known, int i) {
        if (noLot(l)) return UNKNOWN;
        if (!in(day, 0, 2000) || !in(known, 0, now)) return OUTSIDE;
        List<Integer> best = inDoubt(l, day, known);
        return i == NONE ? best.size() : in(i, 0, best.size() - 1) ? best.get(i) : NONE;
    }

    List<Integer> inDoubt(int l, int day, int known) {
        Told s = story(day, known);
        List<Integer> of = new ArrayList<>();
        for (int w : s.papers.keySet()) {
            if (s.papers.get(w).lot == l) of.add(w);
        }
        int over = onPapers(s, l) - there(s, l);
        if (of.size() <= 12) return bestOfAll(s, of, over);
        List<Integer> best = null;
        for (int many = 0; best == null; many++) best = firstOf(s, of, many, over);
        return best;
    }

    List<Integer> bestOfAll(Told s, List<Integer> of, int over) {
        List<Integer> best = null;
        for (int set = 0; set < 1 << of.size(); set++) {
            List<Integer> tried = new ArrayList<>();
            int casks = 0;
            for (int k = 0; k < of.size(); k++) {
                if ((set >> k & 1) == 1) {
                    tried.add(of.get(k));
                    casks += s.papers.get(of.get(k)).casks;
                }
            }
            if (casks >= over && (best == null || isBefore(tried, best))) best = tried;
        }
        return best;
    }

    /** The first row of so many WARRANTS with the casks that are over; null: there is none. */
    List<Integer> firstOf(Told s, List<Integer> of, int many, int over) {
        if (many == 0) return over <= 0 ? List.of() : null;
        for (int k = 0; k + many <= of.size(); k++) {
            List<Integer> behind = of.subList(k + 1, of.size());
            int mine = s.papers.get(of.get(k)).casks;
            int most = behind.stream().map(w -> -s.papers.get(w).casks).sorted().limit(many - 1).mapToInt(c -> -c).sum();
            if (mine + most >= over) {
                List<Integer> row = new ArrayList<>(List.of(of.get(k)));
                row.addAll(firstOf(s, behind, many - 1, over - mine));
                return row;
            }
        }
        return null;
    }

    static boolean isBefore(List<Integer> a, List<Integer> b) {
        if (a.size() != b.size()) return a.size() < b.size();
        for (int k = 0; k < a.size(); k++) {
            if (!a.get(k).equals(b.get(k))) return a.get(k) < b.get(k);
        }
        return false;
    }

    int stock(int house, int sort, int what) {
        if (noHouse(house)) return UNKNOWN;
        if (!in(sort, 0, 3) || !in(what, 0, 1)) return OUTSIDE;
        return story(now, now).papers.values().stream()
            .filter(p -> lots.get(p.lot).sort == sort && (what == 0 ? p.title : p.holds) == house).mapToInt(p -> p.casks).sum();
    }

    int news(int day, int a, int b) {
        if (!in(day, 0, 2000) || !in(a, 0, now) || !in(b, 0, now)) return OUTSIDE;
        Told x = story(day, a);
        Told y = story(day, b);
        int all = 0;
        for (int w = 0; w < lines.size(); w++) {
            Paper p = x.papers.get(w);
            Paper q = y.papers.get(w);
            String one = p == null ? "" : p.holds + " " + p.title;
            String other = q == null ? "" : q.holds + " " + q.title;
            if (!one.equals(other)) all++;
        }
        return all;
    }

    int rent(int l, int day) {
        if (noLot(l)) return UNKNOWN;
        if (!in(day, 0, 2000)) return OUTSIDE;
        int weeks = 0;
        for (int d = lots.get(l).since; d <= day; d += 7) weeks++;
        return weeks * value("rent", day) * there(story(day, now), l);
    }

    int weight(int l, int day) {
        if (noLot(l)) return UNKNOWN;
        if (!in(day, 0, 2000)) return OUTSIDE;
        int left = 1000;
        for (int d = lots.get(l).since + 7; d <= day; d += 7) left -= value("dry" + lots.get(l).sort, day);
        return lots.get(l).weight * Math.max(0, left) / 1000;
    }

    int weigh(int l, int n, int weight) {
        if (noLot(l)) return UNKNOWN;
        if (!in(n, 1, 200) || !in(weight, 0, 199999)) return OUTSIDE;
        if (weighings.size() == 40) return FULL;
        weighings.add(new Weighing(l, n, weight, now));
        return weighings.size();
    }

    int loss(int i, int what) {
        if (!in(i, 0, weighings.size() - 1)) return UNKNOWN;
        if (!in(what, 0, 2)) return OUTSIDE;
        Weighing w = weighings.get(i);
        long ought = (long) w.n * weight(w.lot, w.day);
        long lost = Math.max(0, ought - w.weight);
        boolean beyond = lost * 1000 > ought * value("bear", w.day);
        return what == 0 ? (int) lost : what == 1 ? (beyond ? (int) lost : 0) : beyond ? value("beyond", w.day) : NONE;
    }

    int unpaid(int house, int l, int v) {
        if (noHouse(house) || noLot(l)) return UNKNOWN;
        if (!in(v, 0, 9999)) return OUTSIDE;
        int was = unpaid[house][l];
        unpaid[house][l] = v;
        return was;
    }

    int money(int l, int m, int day, int what) {
        if (noLot(l)) return UNKNOWN;
        if (!in(m, 0, 99999) || !in(day, 0, 2000) || !in(what, 0, 4)) return OUTSIDE;
        Told s = story(day, now);
        int[] got = new int[5];
        got[4] = m;
        for (int key : rank(day)) {
            List<Integer> wants = new ArrayList<>();
            if (key == 0) wants.add(rent(l, day));
            if (key == 1) s.papers.values().stream().filter(p -> p.lot == l).forEach(p -> wants.add(p.sum));
            if (key == 2) for (int h = 0; h < 8; h++) wants.add(unpaid[h][l]);
            if (key == 3) wants.add(Integer.MAX_VALUE);
            for (int want : wants) {
                int gets = Math.min(want, got[4]);
                got[key] += gets;
                got[4] -= gets;
            }
        }
        return got[what];
    }

    int sale(int a, int b, int sort, int n) {
        if (noHouse(a) || noHouse(b)) return UNKNOWN;
        if (a == b || !in(sort, 0, 3) || !in(n, 1, 99)) return OUTSIDE;
        if (sales.size() == 24) return FULL;
        sales.add(new Four(a, b, sort, n));
        return sales.size();
    }

    int net(int house, int sort) {
        if (noHouse(house)) return UNKNOWN;
        if (!in(sort, 0, 3)) return OUTSIDE;
        return sales.stream().filter(s -> s.c == sort).mapToInt(s -> s.b == house ? s.d : s.a == house ? -s.d : 0).sum();
    }

    int handings(int sort) {
        if (!in(sort, 0, 3)) return OUTSIDE;
        List<Integer> nets = new ArrayList<>();
        for (int h = 0; h < 8; h++) {
            if (net(h, sort) != 0) nets.add(net(h, sort));
        }
        return nets.size() - groups(nets, (1 << nets.size()) - 1);
    }

    /** The group of the first HOUSE that is left is tried in every way. */
    static int groups(List<Integer> nets, int left) {
        if (left == 0) return 0;
        int first = Integer.lowestOneBit(left);
        int most = 0;
        for (int set = 1; set <= left; set++) {
            if ((set & left) == set && (set & first) != 0) {
                int sum = 0;
                for (int k = 0; k < nets.size(); k++) sum += (set >> k & 1) * nets.get(k);
                if (sum == 0) most = Math.max(most, 1 + groups(nets, left & ~set));
            }
        }
        return most;
    }

    int due(int a, int b, int v) {
        if (noHouse(a) || noHouse(b)) return UNKNOWN;
        if (a == b || !in(v, 1, 9999)) return OUTSIDE;
        if (dues.size() == 24) return FULL;
        dues.add(new Four(a, b, v, 0));
        return dues.size();
    }

    int coin(int house, int v) {
        if (noHouse(house)) return UNKNOWN;
        if (!in(v, 0, 9999)) return OUTSIDE;
        int was = coin[house];
        coin[house] = v;
        return was;
    }

    int fails(int house, int what) {
        if (house != NONE && noHouse(house)) return UNKNOWN;
        if (house == NONE ? what != 4 && what != 5 : !in(what, 0, 3)) return OUTSIDE;
        List<Long> gives = new ArrayList<>();
        for (Four d : dues) gives.add((long) d.c);
        int rounds = 0;
        for (int r = 1; r <= 50; r++) {
            List<Long> next = new ArrayList<>();
            for (Four d : dues) next.add(has(gives, d.a) < owes(d.a) ? d.c * has(gives, d.a) / owes(d.a) : (long) d.c);
            if (next.equals(gives)) break;
            gives = next;
            rounds++;
        }
        int failing = 0;
        for (int h = 0; h < 8; h++) failing += has(gives, h) < owes(h) ? 1 : 0;
        if (house == NONE) return what == 4 ? rounds : failing;
        long[] answers = {has(gives, house) < owes(house) ? 1 : 0, has(gives, house), given(gives, house), owes(house)};
        return (int) answers[what];
    }

    long owes(int h) {
        return dues.stream().filter(d -> d.a == h).mapToLong(d -> d.c).sum();
    }

    long has(List<Long> gives, int h) {
        long all = coin[h];
        for (int d = 0; d < dues.size(); d++) all += dues.get(d).b == h ? gives.get(d) : 0;
        return all;
    }

    long given(List<Long> gives, int h) {
        long all = 0;
        for (int d = 0; d < dues.size(); d++) all += dues.get(d).a == h ? gives.get(d) : 0;
        return all;
    }

    int part(int s, int t, boolean is) {
        if (!in(s, 0, 3) || !in(t, 0, 3) || s == t) return OUTSIDE;
        int was = parted[s][t] ? 1 : 0;
        parted[s][t] = is;
        parted[t][s] = is;
        return was;
    }

    /** All ways to lay the LOTS are tried, the first FLOORS first. */
    int plan(int set, int i) {
        for (int k = 0; k < 32; k++) {
            if ((set >> k & 1) == 1 && noLot(k)) return UNKNOWN;
        }
        if (i != NONE && noLot(i)) return UNKNOWN;
        if (Integer.bitCount(set) > 8) return OUTSIDE;
        int[] best = planOf(set);
        if (best == null) return NOT;
        return i == NONE ? best[lots.size()] : (set >> i & 1) == 1 ? best[i] : NONE;
    }

    /** The FLOORS of all LOTS, and behind them the casks moved; null: there is no plan. */
    int[] planOf(int set) {
        Told s = story(now, now);
        int[] at = floors.stream().mapToInt(f -> f).toArray();
        int[][] best = new int[1][];
        int[] cost = {Integer.MAX_VALUE};
        tryAll(s, set, 0, at, 0, best, cost);
        if (best[0] == null) return null;
        int[] all = Arrays.copyOf(best[0], lots.size() + 1);
        all[lots.size()] = cost[0];
        return all;
    }

    void tryAll(Told s, int set, int l, int[] at, int moved, int[][] best, int[] cost) {
        if (moved >= cost[0]) return;
        if (l == lots.size()) {
            if (isLaid(s, set, at)) {
                best[0] = at.clone();
                cost[0] = moved;
            }
            return;
        }
        if ((set >> l & 1) == 0) {
            tryAll(s, set, l + 1, at, moved, best, cost);
            return;
        }
        int was = at[l];
        for (int f = 0; f < 6; f++) {
            at[l] = f;
            tryAll(s, set, l + 1, at, moved + (f == was ? 0 : there(s, l)), best, cost);
        }
        at[l] = was;
    }

    boolean isLaid(Told s, int set, int[] at) {
        for (int l = 0; l < lots.size(); l++) {
            if ((set >> l & 1) == 1) {
                int casks = 0;
                for (int m = 0; m < lots.size(); m++) {
                    if (at[m] == at[l]) {
                        casks += there(s, m);
                        if (parted[lots.get(l).sort][lots.get(m).sort]) return false;
                    }
                }
                if (casks > room[at[l]]) return false;
            }
        }
        return true;
    }
}
