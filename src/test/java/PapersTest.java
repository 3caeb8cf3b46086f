/** Promises 14 to 19. */
public final class PapersTest {
    private static final int NONE = -1, UNKNOWN = -1001, OUTSIDE = -1002, NOT = -1003;

    public static void main(String[] args) {
        paperRefusals();
        passing();
        passingUnderTerms();
        stopping();
        parting();
        lending();
        handingOut();
        burning();
        stealing();
        byDays();
        goods();
        share();
        doubt();
        stock();
        news();
        Check.end();
    }

    private static WharfPapers withOneLot(int casks) {
        WharfPapers x = new WharfPapers();
        x.lot(2, casks, 10, 0, 0);
        return x;
    }

    private static void isPaper(String what, WharfPapers x, int w, int... due) {
        int now = x.count(0);
        for (int k = 0; k < due.length; k++) {
            Check.due("14 " + what + ": paper(" + w + ", .., " + k + ")", x.paper(w, now, now, k), due[k]);
        }
    }

    private static void paperRefusals() {
        WharfPapers x = withOneLot(10);
        Check.due("14 no LINE", x.paper(0, -1, 0, 0), UNKNOWN);
        x.go(5);
        x.line(0, 3, 0, 1, 0, 4);
        x.line(8, 3, 0, 1, 0, 4);
        Check.due("14 no WARRANT", x.paper(1, 0, 0, 9), UNKNOWN);
        Check.due("14 LINE -1", x.paper(-1, 0, 0, 0), UNKNOWN);
        Check.due("14 DAY -1", x.paper(0, -1, 5, 0), OUTSIDE);
        Check.due("14 DAY 2001", x.paper(0, 2001, 5, 0), OUTSIDE);
        Check.due("14 known after NOW", x.paper(0, 3, 6, 0), OUTSIDE);
        Check.due("14 known -1", x.paper(0, 3, -1, 0), OUTSIDE);
        Check.due("14 what 7", x.paper(0, 3, 5, 7), OUTSIDE);
        Check.due("14 what -1, not there", x.paper(0, 0, 0, -1), OUTSIDE);
        Check.due("14 not yet", x.paper(0, 2, 5, 0), NOT);
        Check.due("14 not known yet", x.paper(0, 3, 4, 0), NOT);
        Check.due("14 there", x.paper(0, 3, 5, 0), 4);
        Check.due("14 there for good", x.paper(0, 2000, 5, 6), 0);
        isPaper("new", x, 0, 4, 1, 1, NONE, 0, NONE, 0);
    }

    private static void passing() {
        WharfPapers x = withOneLot(10);
        x.line(0, 0, 0, 1, 0, 4);
        x.line(1, 0, 0, 2, 3, 1);
        Check.due("7 q does not HOLD it", x.told(1, 8), 1);
        isPaper("VAIN", x, 0, 4, 1, 1);
        x.line(1, 0, 0, 2, 1, 0);
        isPaper("unpaid, with TITLE", x, 0, 4, 2, 2);
        x.line(9, 0, 0, 5, 0, 0);
        isPaper("stolen", x, 0, 4, 5, 2);
        x.line(1, 0, 0, 6, 5, 0);
        isPaper("unpaid, without TITLE", x, 0, 4, 6, 2);
        x.line(1, 0, 0, 6, 6, 0);
        Check.due("7 to itself", x.told(5, 8), 0);
        isPaper("unpaid, to itself", x, 0, 4, 6, 2);
        x.line(1, 0, 0, 6, 6, 1);
        isPaper("paid, to itself", x, 0, 4, 6, 6);
    }

    private static void passingUnderTerms() {
        WharfPapers x = withOneLot(10);
        Check.due("11", Check.term(x, "let title 0;", 2), 0);
        x.go(5);
        x.line(0, 0, 0, 1, 0, 4);
        x.line(9, 0, 0, 2, 0, 0);
        int late = x.line(1, 2, 0, 3, 2, 1);
        isPaper("title 0 on that DAY", x, 0, 4, 3, 1);
        x.line(10, 5, late, 0, 0, 0);
        x.line(1, 1, 0, 3, 2, 1);
        isPaper("title 1 on that DAY", x, 0, 4, 3, 3);
    }

    private static void stopping() {
        WharfPapers x = withOneLot(10);
        Check.due("11", Check.term(x, "let stop 1;", 5), 0);
        x.go(9);
        x.line(0, 0, 0, 1, 0, 4);
        x.line(6, 0, 0, 0, 0, 0);
        Check.due("7 FREED in vain", x.told(1, 8), 1);
        x.line(5, 1, 0, 7, 0, 0);
        isPaper("STOPPED", x, 0, 4, 1, 1, NONE, 0, 7);
        x.line(5, 1, 0, 6, 0, 0);
        Check.due("7 STOPPED already", x.told(3, 8), 1);
        x.line(1, 2, 0, 2, 1, 0);
        isPaper("unpaid", x, 0, 4, 2, 2, NONE, 0, 7);
        x.line(1, 5, 0, 3, 2, 1);
        Check.due("7 stop is 1", x.told(5, 8), 1);
        x.line(1, 4, 0, 4, 2, 1);
        isPaper("paid", x, 0, 4, 4, 4, NONE, 0, NONE);
        Check.due("7 it is no more STOPPED, but 2 HOLDS it no more", x.told(5, 8), 1);
        x.line(5, 6, 0, 3, 0, 0);
        x.line(6, 7, 0, 0, 0, 0);
        isPaper("FREED", x, 0, 4, 4, 4, NONE, 0, NONE);
        Check.due("14 STOPPED between", x.paper(0, 6, 9, 5), 3);
        x.line(1, 8, 0, 5, 4, 0);
        isPaper("passed when free", x, 0, 4, 5, 5, NONE, 0, NONE);
    }

    private static void parting() {
        WharfPapers x = withOneLot(10);
        x.line(0, 0, 0, 1, 0, 4);
        x.line(2, 0, 0, 0, 0, 4);
        Check.due("7 not more than a", x.told(1, 8), 1);
        Check.due("14 not there", x.paper(1, 0, 0, 0), NOT);
        x.line(9, 0, 0, 2, 0, 0);
        x.line(2, 0, 0, 0, 0, 3);
        isPaper("what is left", x, 0, 1, 2, 1, NONE, 0, NONE, 0);
        isPaper("what was parted", x, 3, 3, 2, 1, NONE, 0, NONE, 0);
        x.line(2, 0, 3, 0, 0, 1);
        isPaper("parted again", x, 3, 2);
        isPaper("parted again", x, 4, 1, 2, 1, NONE, 0, NONE, 0);
        Check.due("15 casks stay", x.goods(0, 0, 0, 3), 4);
        Check.due("9 no DOUBLE", x.count(6), 0);
        x.line(5, 0, 3, 1, 0, 0);
        x.line(2, 0, 3, 0, 0, 1);
        Check.due("7 STOPPED", x.told(6, 8), 1);
        x.line(10, 0, 3, 0, 0, 0);
        Check.due("14 it is VOID", x.paper(3, 0, 0, 0), NOT);
        Check.due("14 what came of it is not there", x.paper(4, 0, 0, 0), NOT);
        isPaper("whole again", x, 0, 4, 2, 1);
    }

    private static void lending() {
        WharfPapers x = withOneLot(10);
        x.line(0, 0, 0, 1, 0, 4);
        x.line(4, 0, 0, 0, 0, 0);
        Check.due("7 not LENT on", x.told(1, 8), 1);
        x.line(9, 0, 0, 2, 0, 0);
        x.line(3, 0, 0, 5, 0, 50);
        Check.due("7 without the TITLE", x.told(3, 8), 1);
        x.line(1, 0, 0, 1, 2, 0);
        x.line(3, 0, 0, 5, 0, 50);
        isPaper("LENT", x, 0, 4, 1, 1, 5, 50, NONE);
        x.line(3, 0, 0, 6, 0, 60);
        Check.due("7 LENT already", x.told(6, 8), 1);
        x.line(2, 0, 0, 0, 0, 1);
        Check.due("7 not parted", x.told(7, 8), 1);
        x.line(7, 0, 0, 0, 0, 1);
        Check.due("7 not OUT", x.told(8, 8), 1);
        x.line(1, 0, 0, 3, 1, 1);
        isPaper("passed with what is LENT", x, 0, 4, 3, 3, 5, 50, NONE);
        x.line(5, 0, 0, 7, 0, 0);
        x.line(4, 0, 0, 0, 0, 0);
        isPaper("REPAID", x, 0, 4, 3, 3, NONE, 0, 7);
        x.line(3, 0, 0, 6, 0, 9999);
        isPaper("LENT though STOPPED", x, 0, 4, 3, 3, 6, 9999, 7);
    }

    private static void handingOut() {
        WharfPapers x = withOneLot(5);
        x.line(0, 0, 0, 1, 0, 4);
        x.line(0, 0, 0, 2, 0, 4);
        x.line(7, 0, 0, 0, 0, 5);
        Check.due("7 fewer casks", x.told(2, 8), 1);
        x.line(7, 0, 0, 0, 0, 4);
        isPaper("all OUT", x, 0, 0, 1, 1);
        x.line(7, 0, 1, 0, 0, 2);
        Check.due("7 fewer THERE", x.told(4, 8), 1);
        x.line(5, 0, 1, 0, 0, 0);
        x.line(7, 0, 1, 0, 0, 1);
        Check.due("7 STOPPED", x.told(6, 8), 1);
        x.line(6, 0, 1, 0, 0, 0);
        x.line(7, 0, 1, 0, 0, 1);
        isPaper("one OUT", x, 1, 3, 2, 2);
        Check.due("15 OUT", x.goods(0, 0, 0, 1), 5);
        Check.due("15 THERE", x.goods(0, 0, 0, 0), 0);
        Check.due("15 OVER", x.goods(0, 0, 0, 4), 3);
        x.line(1, 0, 0, 6, 1, 0);
        isPaper("an empty one is passed", x, 0, 0, 6, 6);
        Check.due("16 of none THERE", x.share(1, 0, 0, 0), 0);
        Check.due("16 of none THERE", x.share(1, 0, 0, 1), 1);
        Check.due("16 of an empty one", x.share(0, 0, 0, 0), 0);
        Check.due("16 of an empty one", x.share(0, 0, 0, 1), 1);
    }

    private static void burning() {
        WharfPapers x = withOneLot(5);
        x.line(8, 0, 0, 0, 0, 6);
        Check.due("7 fewer THERE", x.told(0, 8), 1);
        x.line(8, 0, 0, 0, 0, 3);
        x.line(8, 0, 0, 0, 0, 2);
        x.line(8, 0, 0, 0, 0, 1);
        Check.due("7 none THERE", x.told(3, 8), 1);
        Check.due("15 BURNT", x.goods(0, 0, 0, 2), 5);
        Check.due("15 THERE", x.goods(0, 0, 0, 0), 0);
    }

    private static void stealing() {
        WharfPapers x = withOneLot(5);
        x.line(0, 0, 0, 1, 0, 4);
        x.line(9, 0, 0, 1, 0, 0);
        Check.due("7 p HOLDS it", x.told(1, 8), 1);
        x.line(9, 0, 0, 2, 0, 0);
        x.line(9, 0, 0, 1, 0, 0);
        isPaper("stolen back", x, 0, 4, 1, 1);
        Check.due("7 done", x.told(3, 8), 0);
    }

    private static void byDays() {
        WharfPapers x = withOneLot(10);
        x.go(10);
        x.line(0, 8, 0, 1, 0, 4);
        x.line(1, 5, 0, 2, 1, 1);
        Check.due("7 the WARRANT is not there yet", x.told(1, 8), 1);
        x.line(1, 9, 0, 3, 1, 1);
        x.go(10);
        x.line(1, 8, 0, 4, 1, 1);
        Check.due("14 as known on 10", x.paper(0, 20, 10, 1), 3);
        Check.due("14 as known on 20", x.paper(0, 20, 20, 1), 4);
        Check.due("14 on 8 as known on 10", x.paper(0, 8, 10, 1), 1);
        Check.due("14 on 8 as known on 20", x.paper(0, 8, 20, 1), 4);
        Check.due("7 VAIN by what was told later", x.told(2, 8), 1);
        Check.due("9 VAIN", x.count(4), 2);
    }

    private static void goods() {
        WharfPapers x = withOneLot(10);
        x.lot(1, 7, 1, 0, 0);
        x.go(4);
        Check.due("15 no LOT", x.goods(2, -1, 0, 0), UNKNOWN);
        Check.due("15 LOT -1", x.goods(-1, 0, 0, 0), UNKNOWN);
        Check.due("15 DAY", x.goods(0, 2001, 0, 0), OUTSIDE);
        Check.due("15 DAY -1", x.goods(0, -1, 0, 0), OUTSIDE);
        Check.due("15 known", x.goods(0, 0, 5, 0), OUTSIDE);
        Check.due("15 known -1", x.goods(0, 0, -1, 0), OUTSIDE);
        Check.due("15 what 6", x.goods(0, 0, 0, 6), OUTSIDE);
        Check.due("15 what -1", x.goods(0, 0, 0, -1), OUTSIDE);
        x.line(0, 1, 0, 1, 0, 8);
        x.line(0, 2, 0, 1, 0, 5);
        x.line(2, 2, 0, 0, 0, 3);
        x.line(7, 3, 2, 0, 0, 3);
        x.line(8, 4, 0, 0, 0, 2);
        x.line(0, 4, 1, 0, 0, 7);
        int[][] due = {{10, 0, 0, 0, 0, 0}, {10, 0, 0, 8, 0, 1}, {10, 0, 0, 13, 3, 3}, {7, 3, 0, 10, 3, 2}, {5, 3, 2, 10, 5, 2}};
        for (int day = 0; day < due.length; day++) {
            for (int what = 0; what < 6; what++) {
                Check.due("15 goods(0, " + day + ", 4, " + what + ")", x.goods(0, day, 4, what), due[day][what]);
            }
        }
        Check.due("15 as known on 3", x.goods(0, 4, 3, 3), 0);
        Check.due("15 another LOT", x.goods(1, 4, 4, 3), 7);
        Check.due("15 nothing OVER", x.goods(1, 4, 4, 4), 0);
    }

    private static void share() {
        WharfPapers x = withOneLot(10);
        x.go(2);
        x.line(0, 1, 0, 1, 0, 6);
        x.line(0, 1, 0, 2, 0, 4);
        Check.due("16 enough", x.share(0, 1, 2, 0), 6);
        Check.due("16 enough", x.share(0, 1, 2, 1), 1);
        x.line(8, 2, 0, 0, 0, 5);
        Check.due("16 upper", x.share(0, 2, 2, 0), 3);
        Check.due("16 lower", x.share(0, 2, 2, 1), 1);
        x.line(8, 2, 0, 0, 0, 1);
        Check.due("16 6 times 4 by 10", x.share(0, 2, 2, 0), 12);
        Check.due("16 6 times 4 by 10", x.share(0, 2, 2, 1), 5);
        Check.due("16 4 times 4 by 10", x.share(1, 2, 2, 0), 8);
        Check.due("16 no WARRANT", x.share(2, 2, 2, 5), UNKNOWN);
        Check.due("16 LINE -1", x.share(-1, 2, 2, 0), UNKNOWN);
        Check.due("16 what 2", x.share(0, 2, 2, 2), OUTSIDE);
        Check.due("16 what -1", x.share(0, 2, 2, -1), OUTSIDE);
        Check.due("16 DAY", x.share(0, 2001, 2, 0), OUTSIDE);
        Check.due("16 known", x.share(0, 2, 3, 0), OUTSIDE);
        Check.due("16 not there", x.share(0, 0, 2, 0), NOT);
        Check.due("16 not known", x.share(0, 2, 1, 0), NOT);
    }

    private static void isDoubt(String what, int casks, int[] papers, int... due) {
        WharfPapers x = withOneLot(casks);
        for (int n : papers) {
            x.line(0, 0, 0, 1, 0, n);
        }
        Check.due("17 " + what + ": how many", x.doubt(0, 0, 0, NONE), due.length);
        for (int i = 0; i < due.length; i++) {
            Check.due("17 " + what + ": " + i, x.doubt(0, 0, 0, i), due[i]);
        }
        Check.due("17 " + what + ": beyond", x.doubt(0, 0, 0, due.length), NONE);
    }

    private static void doubt() {
        isDoubt("none OVER", 10, new int[] {5, 5});
        isDoubt("one OVER", 10, new int[] {1, 5, 5}, 0);
        isDoubt("the first that is large enough", 10, new int[] {1, 5, 6}, 1);
        isDoubt("two", 10, new int[] {4, 4, 4, 4, 1}, 0, 1);
        isDoubt("two with a large one", 9, new int[] {1, 2, 9, 6, 2, 1}, 2, 3);
        isDoubt("two that are just enough", 10, new int[] {1, 2, 9, 6, 2, 1}, 1, 2);
        isDoubt("a small one first, if a large one follows", 10, new int[] {1, 2, 9, 8}, 0, 2);
        isDoubt("three", 1, new int[] {2, 1, 5, 4}, 0, 2, 3);
        isDoubt("all", 1, new int[] {2, 2, 2}, 0, 1, 2);
        WharfPapers x = withOneLot(5);
        x.lot(0, 5, 1, 0, 0);
        x.line(0, 0, 1, 1, 0, 9);
        x.line(0, 0, 0, 1, 0, 2);
        x.line(0, 0, 0, 1, 0, 4);
        Check.due("17 of that LOT alone", x.doubt(0, 0, 0, 0), 1);
        Check.due("17 the other LOT", x.doubt(1, 0, 0, 0), 0);
        Check.due("17 -2", x.doubt(1, 0, 0, -2), NONE);
        Check.due("17 MAX", x.doubt(1, 0, 0, Integer.MAX_VALUE), NONE);
        Check.due("17 no LOT", x.doubt(2, 0, 9, 0), UNKNOWN);
        Check.due("17 LOT -1", x.doubt(-1, 0, 0, 0), UNKNOWN);
        Check.due("17 DAY", x.doubt(0, 2001, 0, 0), OUTSIDE);
        Check.due("17 DAY -1", x.doubt(0, -1, 0, 0), OUTSIDE);
        Check.due("17 known", x.doubt(0, 0, 1, 0), OUTSIDE);
        Check.due("17 known -1", x.doubt(0, 0, -1, 0), OUTSIDE);
    }

    private static void stock() {
        WharfPapers x = withOneLot(10);
        x.lot(2, 10, 1, 0, 0);
        x.lot(1, 10, 1, 0, 0);
        x.line(0, 0, 0, 1, 0, 3);
        x.line(0, 0, 1, 1, 0, 4);
        x.line(0, 0, 2, 1, 0, 5);
        x.line(9, 0, 1, 6, 0, 0);
        Check.due("18 TITLE", x.stock(1, 2, 0), 7);
        Check.due("18 HOLDS", x.stock(1, 2, 1), 3);
        Check.due("18 HOLDS what was stolen", x.stock(6, 2, 1), 4);
        Check.due("18 without TITLE", x.stock(6, 2, 0), 0);
        Check.due("18 another SORT", x.stock(1, 1, 0), 5);
        Check.due("18 no HOUSE", x.stock(8, 9, 9), UNKNOWN);
        Check.due("18 HOUSE -1", x.stock(-1, 0, 0), UNKNOWN);
        Check.due("18 SORT 4", x.stock(0, 4, 0), OUTSIDE);
        Check.due("18 SORT -1", x.stock(0, -1, 0), OUTSIDE);
        Check.due("18 what 2", x.stock(0, 0, 2), OUTSIDE);
        Check.due("18 what -1", x.stock(0, 0, -1), OUTSIDE);
    }

    private static void news() {
        WharfPapers x = withOneLot(10);
        x.line(0, 0, 0, 1, 0, 3);
        x.line(0, 0, 0, 1, 0, 3);
        x.line(0, 0, 0, 1, 0, 3);
        x.go(5);
        x.line(9, 1, 0, 2, 0, 0);
        x.line(1, 2, 0, 1, 2, 0);
        x.line(9, 2, 1, 2, 0, 0);
        x.line(10, 2, 2, 2, 0, 0);
        x.line(0, 3, 0, 1, 0, 3);
        x.line(3, 3, 0, 4, 0, 9);
        Check.due("19 on 0", x.news(0, 0, 5), 1);
        Check.due("19 on 1", x.news(1, 0, 5), 2);
        Check.due("19 on 2", x.news(2, 0, 5), 2);
        Check.due("19 on 3", x.news(3, 0, 5), 3);
        Check.due("19 the other way", x.news(3, 5, 0), 3);
        Check.due("19 the same", x.news(3, 5, 5), 0);
        Check.due("19 nothing was told between", x.news(3, 0, 4), 0);
        Check.due("19 DAY", x.news(2001, 0, 0), OUTSIDE);
        Check.due("19 DAY -1", x.news(-1, 0, 0), OUTSIDE);
        Check.due("19 a", x.news(0, 6, 0), OUTSIDE);
        Check.due("19 b", x.news(0, 0, 6), OUTSIDE);
        Check.due("19 a -1", x.news(0, -1, 0), OUTSIDE);
        Check.due("19 b -1", x.news(0, 0, -1), OUTSIDE);
        // another TITLE alone is news too
        WharfPapers y = withOneLot(10);
        y.line(0, 0, 0, 1, 0, 3);
        y.line(9, 0, 0, 2, 0, 0);
        y.go(1);
        y.line(1, 1, 0, 2, 2, 1);
        Check.due("19 another TITLE", y.news(1, 0, 1), 1);
    }
}
