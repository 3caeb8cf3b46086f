/** Promises 20 to 25. */
public final class MoneyTest {
    private static final int NONE = -1, UNKNOWN = -1001, OUTSIDE = -1002, FULL = -1004;

    public static void main(String[] args) {
        rent();
        weight();
        weigh();
        loss();
        unpaid();
        money();
        moneyByRank();
        Check.end();
    }

    private static void rent() {
        WharfPapers x = new WharfPapers();
        Check.due("20 no LOT", x.rent(0, -1), UNKNOWN);
        x.go(10);
        x.lot(0, 200, 10, 0, 0);
        Check.due("20 DAY -1", x.rent(0, -1), OUTSIDE);
        Check.due("20 DAY 2001", x.rent(0, 2001), OUTSIDE);
        Check.due("20 LOT -1", x.rent(-1, 0), UNKNOWN);
        Check.due("20 ahead", x.rent(0, 9), 0);
        Check.due("20 the first DAY", x.rent(0, 10), 400);
        Check.due("20 the first WEEK", x.rent(0, 16), 400);
        Check.due("20 the second", x.rent(0, 17), 800);
        Check.due("11", Check.term(x, "let rent 99;", 2000), 0);
        Check.due("20 the DAY before", x.rent(0, 1999), 200 * 2 * 285);
        Check.due("20 TERMS of that DAY", x.rent(0, 2000), 200 * 99 * 285);
        x.go(10);
        x.line(8, 15, 0, 0, 0, 50);
        x.move(0, 3);
        Check.due("20 before the fire", x.rent(0, 14), 400);
        Check.due("20 casks THERE alone", x.rent(0, 15), 300);
        Check.due("20 by the DAY on which it was told, not moved", x.rent(0, 20), 600);
    }

    private static void weight() {
        WharfPapers x = new WharfPapers();
        x.go(3);
        x.lot(1, 10, 999, 0, 0);
        x.lot(2, 10, 333, 0, 0);
        Check.due("11", Check.term(x, "dry 1 by 3;dry 2 by 999;", 0), 0);
        Check.due("21 ahead", x.weight(0, 0), 999);
        Check.due("21 before a WEEK", x.weight(0, 9), 999);
        Check.due("21 a WEEK", x.weight(0, 10), 996);
        Check.due("21 two", x.weight(0, 17), 993);
        Check.due("21 many", x.weight(0, 2000), 999 * (1000 - 3 * 285) / 1000);
        Check.due("21 nearly dry", x.weight(1, 10), 0);
        Check.due("21 dry", x.weight(1, 17), 0);
        Check.due("21 no LOT", x.weight(2, -1), UNKNOWN);
        Check.due("21 LOT -1", x.weight(-1, 0), UNKNOWN);
        Check.due("21 DAY -1", x.weight(0, -1), OUTSIDE);
        Check.due("21 DAY 2001", x.weight(0, 2001), OUTSIDE);
        Check.due("11", Check.term(x, "dry 1 by 0;", 17), 1);
        Check.due("21 TERMS of the DAY before", x.weight(0, 16), 996);
        Check.due("21 TERMS of the DAY", x.weight(0, 17), 999);
    }

    private static void weigh() {
        WharfPapers x = new WharfPapers();
        Check.due("22 no LOT", x.weigh(0, 0, -1), UNKNOWN);
        x.lot(0, 1, 1, 0, 0);
        Check.due("22 n 0", x.weigh(0, 0, 0), OUTSIDE);
        Check.due("22 n 201", x.weigh(0, 201, 0), OUTSIDE);
        Check.due("22 -1", x.weigh(0, 1, -1), OUTSIDE);
        Check.due("22 200000", x.weigh(0, 1, 200000), OUTSIDE);
        for (int i = 1; i <= 40; i++) {
            Check.due("22 weighing " + i, x.weigh(0, 200, i == 1 ? 0 : 199999), i);
        }
        Check.due("22 full", x.weigh(0, 1, 1), FULL);
        Check.due("22 full and OUTSIDE", x.weigh(0, 0, 1), OUTSIDE);
        Check.due("9 weighings", x.count(11), 40);
        Check.due("23 the last", x.loss(39, 0), 0);
        Check.due("23 the first", x.loss(0, 0), 200);
        Check.due("23 none such", x.loss(40, 0), UNKNOWN);
    }

    private static void loss() {
        WharfPapers x = new WharfPapers();
        x.lot(3, 10, 500, 0, 0);
        x.go(7);
        Check.due("23 none", x.loss(0, 9), UNKNOWN);
        x.weigh(0, 2, 990);
        x.weigh(0, 2, 989);
        x.weigh(0, 2, 1001);
        int[][] due = {{10, 0, NONE}, {11, 11, 0}, {0, 0, NONE}};
        for (int i = 0; i < 3; i++) {
            for (int what = 0; what < 3; what++) {
                Check.due("23 loss(" + i + ", " + what + ")", x.loss(i, what), due[i][what]);
            }
        }
        Check.due("23 what 3", x.loss(0, 3), OUTSIDE);
        Check.due("23 what -1", x.loss(0, -1), OUTSIDE);
        Check.due("23 -1", x.loss(-1, 0), UNKNOWN);
        Check.due("11", Check.term(x, "let beyond 1;", 7), 0);
        Check.due("23 the wharf's", x.loss(1, 2), 1);
        Check.due("23 still borne", x.loss(0, 2), NONE);
        Check.due("11", Check.term(x, "let beyond 0;let bear 0;dry 3 by 999;", 8), 1);
        Check.due("23 TERMS of the DAY of weighing", x.loss(1, 2), 1);
        x.go(1);
        Check.due("23 WEIGHT of that DAY", x.loss(1, 0), 11);
        x.weigh(0, 200, 0);
        Check.due("23 dry casks lose little", x.loss(3, 0), 0);
        x.lot(0, 10, 999, 0, 0);
        x.weigh(1, 200, 199799);
        Check.due("23 bear 0: one is BEYOND", x.loss(4, 1), 1);
        Check.due("23 the owner's", x.loss(4, 2), 0);
        x.weigh(1, 200, 199800);
        Check.due("23 bear 0: none", x.loss(5, 1), 0);
        Check.due("23 bear 0: nobody's", x.loss(5, 2), NONE);
        Check.due("11", Check.term(x, "let bear 999;", 8), 2);
        x.weigh(1, 200, 0);
        Check.due("23 all", x.loss(6, 1), 199800);
        x.weigh(1, 200, 200);
        Check.due("23 nearly all, borne", x.loss(7, 0), 199600);
        Check.due("23 nearly all, borne", x.loss(7, 1), 0);
    }

    private static void unpaid() {
        WharfPapers x = new WharfPapers();
        Check.due("24 no LOT", x.unpaid(0, 0, -1), UNKNOWN);
        x.lot(0, 1, 1, 0, 0);
        x.lot(0, 1, 1, 0, 0);
        Check.due("24 no HOUSE", x.unpaid(8, 0, 0), UNKNOWN);
        Check.due("24 HOUSE -1", x.unpaid(-1, 0, 0), UNKNOWN);
        Check.due("24 LOT -1", x.unpaid(0, -1, 0), UNKNOWN);
        Check.due("24 -1", x.unpaid(0, 0, -1), OUTSIDE);
        Check.due("24 10000", x.unpaid(0, 0, 10000), OUTSIDE);
        Check.due("24 first", x.unpaid(7, 1, 9999), 0);
        Check.due("24 then", x.unpaid(7, 1, 0), 9999);
        Check.due("24 another LOT", x.unpaid(7, 0, 5), 0);
        Check.due("24 another HOUSE", x.unpaid(6, 0, 5), 0);
        Check.due("24 again", x.unpaid(7, 0, 6), 5);
    }

    private static void isMoney(String what, WharfPapers x, int m, int day, int... due) {
        for (int k = 0; k < due.length; k++) {
            Check.due("25 " + what + ": money(0, " + m + ", " + day + ", " + k + ")", x.money(0, m, day, k), due[k]);
        }
    }

    private static WharfPapers indebted() {
        WharfPapers x = new WharfPapers();
        x.lot(0, 10, 1, 0, 0);
        x.lot(0, 10, 1, 0, 0);
        x.go(9);
        x.line(0, 0, 0, 1, 0, 5);
        x.line(0, 0, 0, 1, 0, 5);
        x.line(0, 0, 1, 1, 0, 5);
        x.line(3, 2, 0, 4, 0, 100);
        x.line(3, 2, 1, 5, 0, 30);
        x.line(3, 2, 2, 5, 0, 7000);
        x.line(4, 6, 1, 0, 0, 0);
        x.unpaid(3, 0, 11);
        x.unpaid(5, 0, 22);
        x.unpaid(5, 1, 5000);
        return x;
    }

    private static void money() {
        WharfPapers x = indebted();
        isMoney("nothing LENT yet", x, 1000, 1, 20, 0, 33, 947, 0);
        isMoney("two LENT", x, 1000, 2, 20, 130, 33, 817, 0);
        isMoney("one REPAID", x, 1000, 7, 40, 100, 33, 827, 0);
        isMoney("enough for some", x, 130, 2, 20, 110, 0, 0, 0);
        isMoney("sellers in part", x, 160, 2, 20, 130, 10, 0, 0);
        isMoney("none", x, 0, 2, 0, 0, 0, 0, 0);
        isMoney("most", x, 99999, 2, 20, 130, 33, 99816, 0);
        Check.due("25 no LOT", x.money(2, -1, 0, 0), UNKNOWN);
        Check.due("25 LOT -1", x.money(-1, 0, 0, 0), UNKNOWN);
        Check.due("25 -1", x.money(0, -1, 0, 0), OUTSIDE);
        Check.due("25 100000", x.money(0, 100000, 0, 0), OUTSIDE);
        Check.due("25 DAY", x.money(0, 0, 2001, 0), OUTSIDE);
        Check.due("25 DAY -1", x.money(0, 0, -1, 0), OUTSIDE);
        Check.due("25 what 5", x.money(0, 0, 0, 5), OUTSIDE);
        Check.due("25 what -1", x.money(0, 0, 0, -1), OUTSIDE);
        WharfPapers y = new WharfPapers();
        y.go(5);
        y.lot(0, 10, 1, 0, 0);
        isMoney("ahead of the LOT no rent", y, 50, 4, 0, 0, 0, 50, 0);
        isMoney("then rent", y, 50, 5, 20, 0, 0, 30, 0);
    }

    private static void moneyByRank() {
        WharfPapers x = indebted();
        Check.due("11", Check.term(x, "rank seller,bank;", 3), 0);
        isMoney("two keys", x, 1000, 3, 0, 130, 33, 0, 837);
        isMoney("two keys, little", x, 40, 3, 0, 7, 33, 0, 0);
        isMoney("the DAY before", x, 1000, 2, 20, 130, 33, 817, 0);
        Check.due("11", Check.term(x, "rank rent,owner,bank,seller;", 4), 1);
        isMoney("behind the owner nothing", x, 1000, 4, 20, 0, 0, 980, 0);
    }
}
