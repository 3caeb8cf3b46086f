/** Promises 20 to 25 and part 4 of the terms: the edges that the sentences name, one by one. */
public final class MoneyEdgesTest {
    private static final int NONE = -1, UNKNOWN = -1001, FULL = -1004;
    private static final String[] KEYS = {"rent", "bank", "seller", "owner"};

    public static void main(String[] args) {
        rentByWeeksBegun();
        rentOfTheFirstAndLastDays();
        rentOfCasksThere();
        rentByTermsOfTheDayAsked();
        weightByWholeWeeks();
        weightNoneAtLeast();
        weightByTermsOfTheDayAsked();
        weighingsAreForty();
        lossNoneAtLeast();
        lossMoreThanBear();
        lossOfTheDayOfWeighing();
        lossOfCasksThatAreCut();
        pricesUnpaid();
        moneyAsFarAsThereIs();
        moneyByAllRanks();
        moneyOfTheMost();
        moneyOfThatLot();
        moneyOnADay();
        Check.end();
    }

    private static void rentByWeeksBegun() {
        WharfPapers x = Check.onDay(3);
        x.lot(0, 7, 10, 0, 0);
        int[][] due = {{0, 0}, {2, 0}, {3, 14}, {4, 14}, {9, 14}, {10, 28}, {16, 28}, {17, 42}, {23, 42}, {24, 56}};
        for (int[] row : due) {
            Check.due("20 since 3, on " + row[0], x.rent(0, row[0]), row[1]);
        }
    }

    private static void rentOfTheFirstAndLastDays() {
        WharfPapers x = Check.onDay(0);
        x.lot(0, 200, 10, 0, 0);
        Check.due("20 the first DAY", x.rent(0, 0), 400);
        Check.due("20 286 WEEKS are begun", x.rent(0, 2000), 200 * 2 * 286);
        Check.due("20 the last of the 285th", x.rent(0, 1994), 200 * 2 * 285);
        Check.due("20 the first of the 286th", x.rent(0, 1995), 200 * 2 * 286);
        Check.term(x, "let rent 99;", 0);
        Check.due("20 the most", x.rent(0, 2000), 200 * 99 * 286);
        Check.term(x, "let rent 0;", 0);
        Check.due("20 the least", x.rent(0, 2000), 0);
        WharfPapers y = Check.onDay(2000);
        y.lot(0, 1, 10, 0, 0);
        Check.due("20 told on the last DAY", y.rent(0, 2000), 2);
        Check.due("20 ahead of it", y.rent(0, 1999), 0);
    }

    private static void rentOfCasksThere() {
        WharfPapers x = Check.onDay(0);
        x.lot(0, 10, 10, 0, 0);
        x.go(30);
        x.line(0, 0, 0, 1, 0, 4);
        x.line(7, 8, 0, 0, 0, 3);
        x.line(8, 9, 0, 0, 0, 6);
        Check.due("20 all are THERE", x.rent(0, 7), 10 * 2 * 2);
        Check.due("20 that DAY with it", x.rent(0, 8), 7 * 2 * 2);
        Check.due("20 one is left", x.rent(0, 9), 1 * 2 * 2);
        x.line(7, 9, 0, 0, 0, 1);
        Check.due("20 none is left", x.rent(0, 9), 0);
        Check.due("20 nor later", x.rent(0, 2000), 0);
        x.line(10, 30, 2, 0, 0, 0);
        Check.due("20 AS KNOWN now", x.rent(0, 9), 6 * 2 * 2);
    }

    private static void rentByTermsOfTheDayAsked() {
        WharfPapers x = Check.onDay(0);
        x.lot(0, 1, 10, 0, 0);
        Check.term(x, "let rent 10;", 10);
        Check.term(x, "let rent 20;", 20);
        int[][] due = {{9, 2 * 2}, {10, 10 * 2}, {19, 10 * 3}, {20, 20 * 3}, {21, 20 * 4}};
        for (int[] row : due) {
            Check.due("20 all WEEKS by the TERMS of " + row[0], x.rent(0, row[0]), row[1]);
        }
    }

    private static void weightByWholeWeeks() {
        WharfPapers x = Check.onDay(20);
        x.lot(2, 1, 1000 - 1, 0, 0);
        Check.term(x, "dry 2 by 10;dry 1 by 500;", 0);
        int[][] due = {{0, 999}, {12, 999}, {13, 999}, {19, 999}, {20, 999}, {26, 999}, {27, 989}, {33, 989}, {34, 979}};
        for (int[] row : due) {
            Check.due("21 since 20, on " + row[0], x.weight(0, row[0]), row[1]);
        }
        WharfPapers y = Check.onDay(0);
        for (int s = 0; s < 4; s++) {
            y.lot(s, 1, 100, 0, 0);
        }
        Check.term(y, "dry 0 by 10;dry 1 by 20;dry 2 by 30;dry 3 by 40;", 0);
        for (int s = 0; s < 4; s++) {
            Check.due("21 by its SORT", y.weight(s, 7), 100 - (s + 1));
            Check.due("21 by its SORT", y.weight(s, 14), 100 - 2 * (s + 1));
        }
    }

    private static void weightNoneAtLeast() {
        WharfPapers x = Check.onDay(0);
        x.lot(0, 1, 10, 0, 0);
        x.lot(1, 1, 999, 0, 0);
        x.lot(1, 1, 1, 0, 0);
        Check.term(x, "dry 0 by 100;dry 1 by 999;", 0);
        Check.due("21 100 in a thousand are left", x.weight(0, 63), 1);
        Check.due("21 none are left", x.weight(0, 70), 0);
        Check.due("21 no fewer than none", x.weight(0, 77), 0);
        Check.due("21 on the last DAY", x.weight(0, 2000), 0);
        Check.due("21 1 in a thousand of 999", x.weight(1, 7), 0);
        Check.due("21 no fewer than none", x.weight(1, 14), 0);
        Check.due("21 on the last DAY", x.weight(1, 2000), 0);
        Check.due("21 the least WEIGHT, whole", x.weight(2, 6), 1);
        Check.due("21 the least WEIGHT, dried", x.weight(2, 7), 0);
        Check.term(x, "dry 1 by 1;", 0);
        Check.due("21 999 in a thousand of 1, cut", x.weight(2, 7), 0);
        Check.due("21 999 in a thousand of 999, cut", x.weight(1, 7), 998);
    }

    private static void weightByTermsOfTheDayAsked() {
        WharfPapers x = Check.onDay(0);
        x.lot(0, 1, 100, 0, 0);
        Check.term(x, "dry 0 by 10;", 14);
        Check.term(x, "dry 0 by 100;", 20);
        int[][] due = {{13, 100}, {14, 98}, {19, 98}, {20, 80}, {21, 70}};
        for (int[] row : due) {
            Check.due("21 all WEEKS by the TERMS of " + row[0], x.weight(0, row[0]), row[1]);
        }
    }

    private static void weighingsAreForty() {
        WharfPapers x = Check.onDay(0);
        x.lot(0, 1, 10, 0, 0);
        for (int i = 0; i < 40; i++) {
            Check.due("23 not yet", x.loss(i, 0), UNKNOWN);
            Check.due("22 more casks than there are", x.weigh(0, 200, i), i + 1);
            Check.due("23 LOSS", x.loss(i, 0), 2000 - i);
        }
        Check.due("22 no more", x.weigh(0, 1, 1), FULL);
        Check.due("9 weighings", x.count(11), 40);
        Check.due("23 no more", x.loss(40, 0), UNKNOWN);
        Check.due("23 the first", x.loss(0, 0), 2000);
        WharfPapers y = Check.onDay(0);
        for (int l = 0; l < 12; l++) {
            y.lot(0, 1, 10 + l, 0, 0);
            Check.due("22 of LOT " + l, y.weigh(l, 1, 3), l + 1);
        }
        for (int i = 0; i < 12; i++) {
            Check.due("23 of its LOT", y.loss(i, 0), 7 + i);
        }
    }

    private static void isLoss(String what, WharfPapers x, int i, int lost, int beyond, int whose) {
        Check.due("23 " + what + ": LOSS", x.loss(i, 0), lost);
        Check.due("23 " + what + ": BEYOND", x.loss(i, 1), beyond);
        Check.due("23 " + what + ": whose", x.loss(i, 2), whose);
    }

    private static void lossNoneAtLeast() {
        WharfPapers x = Check.onDay(0);
        x.lot(0, 1, 999, 0, 0);
        Check.term(x, "let bear 0;let beyond 1;", 0);
        int[] weights = {199999, 199801, 199800, 199799, 0};
        int[] lost = {0, 0, 0, 1, 199800};
        for (int i = 0; i < weights.length; i++) {
            x.weigh(0, 200, weights[i]);
            isLoss("weight " + weights[i], x, i, lost[i], lost[i], lost[i] == 0 ? NONE : 1);
        }
        x.weigh(0, 1, 0);
        isLoss("one cask", x, 5, 999, 999, 1);
        Check.term(x, "dry 0 by 999;", 7);
        x.go(14);
        x.weigh(0, 200, 0);
        isLoss("casks that ought to have nothing", x, 6, 0, 0, NONE);
    }

    private static void lossMoreThanBear() {
        // bear, n of WEIGHT 500, weight, BEYOND; n casks ought to have 500 * n
        int[][] rows = {{10, 2, 990, 0}, {10, 2, 989, 11}, {0, 2, 1000, 0}, {0, 2, 999, 1}, {999, 2, 1, 0}, {999, 2, 0, 1000},
            {1, 2, 999, 0}, {1, 2, 998, 2}, {10, 1, 495, 0}, {10, 1, 494, 6}, {1, 1, 500, 0}, {1, 1, 499, 1}, {999, 200, 100, 0}, {999, 200, 99, 99901}};
        for (int[] row : rows) {
            for (int beyond = 0; beyond <= 1; beyond++) {
                WharfPapers x = Check.onDay(0);
                x.lot(0, 1, 500, 0, 0);
                Check.term(x, "let bear " + row[0] + ";let beyond " + beyond + ";", 0);
                x.weigh(0, row[1], row[2]);
                String what = "bear " + row[0] + ", " + row[1] + " of 500 weigh " + row[2];
                isLoss(what, x, 0, 500 * row[1] - row[2], row[3], row[3] == 0 ? NONE : beyond);
            }
        }
        WharfPapers x = Check.onDay(0);
        x.lot(0, 1, 999, 0, 0);
        x.weigh(0, 1, 990);
        isLoss("9 of 999 is less than 10 in a thousand", x, 0, 9, 0, NONE);
        x.weigh(0, 1, 989);
        isLoss("10 of 999 is more", x, 1, 10, 10, 0);
    }

    private static void lossOfTheDayOfWeighing() {
        WharfPapers x = Check.onDay(6);
        x.lot(0, 1, 500, 0, 0);
        Check.term(x, "dry 0 by 20;let bear 0;let beyond 1;", 13);
        Check.term(x, "dry 0 by 40;let bear 999;let beyond 0;", 14);
        x.go(6);
        x.weigh(0, 2, 989);
        x.go(1);
        x.weigh(0, 2, 970);
        x.go(1);
        x.weigh(0, 2, 950);
        isLoss("on 12, by what holds at first", x, 0, 11, 11, 0);
        isLoss("on 13", x, 1, 10, 10, 1);
        isLoss("on 14", x, 2, 10, 0, NONE);
        Check.term(x, "strike 0;", 13);
        isLoss("on 13, struck: by what holds at first", x, 1, 30, 30, 0);
        isLoss("on 12 as before", x, 0, 11, 11, 0);
    }

    /** Casks have a WEIGHT each, cut, before they are taken together. */
    private static void lossOfCasksThatAreCut() {
        WharfPapers x = Check.onDay(0);
        x.lot(0, 1, 999, 0, 0);
        Check.term(x, "dry 0 by 10;let bear 0;", 0);
        x.go(7);
        x.weigh(0, 100, 98900);
        x.weigh(0, 100, 98899);
        isLoss("100 of 989", x, 0, 0, 0, NONE);
        isLoss("100 of 989, one less", x, 1, 1, 1, 0);
    }

    private static void pricesUnpaid() {
        WharfPapers x = Check.onDay(0);
        for (int l = 0; l < 12; l++) {
            x.lot(0, 1, 1, 0, 0);
        }
        for (int l = 0; l < 12; l++) {
            for (int h = 0; h < 8; h++) {
                Check.due("24 nothing at first", x.unpaid(h, l, 1 + h + 8 * l), 0);
            }
        }
        for (int l = 0; l < 12; l++) {
            for (int h = 0; h < 8; h++) {
                Check.due("24 each its own", x.unpaid(h, l, h % 2 == 0 ? 9999 : 0), 1 + h + 8 * l);
            }
        }
        Check.due("24 the most", x.unpaid(0, 0, 5), 9999);
        Check.due("24 none", x.unpaid(1, 0, 5), 0);
        Check.due("25 sellers", x.money(0, 99999, 0, 2), 5 + 5 + 3 * 9999);
    }

    /** Rent 20; 100 and 30 are LENT; 5 and 6 are unpaid. */
    private static WharfPapers indebted() {
        WharfPapers x = Check.onDay(0);
        x.lot(0, 10, 1, 0, 0);
        x.lot(0, 10, 1, 0, 0);
        x.line(0, 0, 0, 1, 0, 5);
        x.line(0, 0, 0, 1, 0, 5);
        x.line(3, 0, 0, 0, 0, 100);
        x.line(3, 0, 1, 7, 0, 30);
        x.unpaid(0, 0, 5);
        x.unpaid(7, 0, 6);
        return x;
    }

    private static void isMoney(String what, WharfPapers x, int m, int... due) {
        for (int k = 0; k < 5; k++) {
            Check.due("25 " + what + ": money(0, " + m + ", 0, " + k + ")", x.money(0, m, 0, k), due[k]);
        }
    }

    private static void moneyAsFarAsThereIs() {
        WharfPapers x = indebted();
        isMoney("none", x, 0, 0, 0, 0, 0, 0);
        isMoney("one", x, 1, 1, 0, 0, 0, 0);
        isMoney("rent less one", x, 19, 19, 0, 0, 0, 0);
        isMoney("rent", x, 20, 20, 0, 0, 0, 0);
        isMoney("and one", x, 21, 20, 1, 0, 0, 0);
        isMoney("the second sum in part", x, 121, 20, 101, 0, 0, 0);
        isMoney("bank less one", x, 149, 20, 129, 0, 0, 0);
        isMoney("bank", x, 150, 20, 130, 0, 0, 0);
        isMoney("and one", x, 151, 20, 130, 1, 0, 0);
        isMoney("sellers less one", x, 160, 20, 130, 10, 0, 0);
        isMoney("sellers", x, 161, 20, 130, 11, 0, 0);
        isMoney("and one", x, 162, 20, 130, 11, 1, 0);
        isMoney("the most", x, 99999, 20, 130, 11, 99838, 0);
    }

    private static void moneyByAllRanks() {
        int[] wants = {20, 130, 11, 99999};
        for (int mix = 0; mix < 1 << 12; mix++) {
            int[] keys = {mix & 7, mix >> 3 & 7, mix >> 6 & 7, mix >> 9};
            if (isRank(keys)) {
                WharfPapers x = indebted();
                Check.term(x, rank(keys), 0);
                for (int m : new int[] {0, 140, 500}) {
                    int[] due = new int[5];
                    int left = m;
                    for (int k = 0; k < 4 && keys[k] < 4; k++) {
                        due[keys[k]] = Math.min(left, wants[keys[k]]);
                        left -= due[keys[k]];
                    }
                    due[4] = left;
                    isMoney(rank(keys), x, m, due);
                }
            }
        }
    }

    /** Keys 0 to 3, none twice, and behind them only 4, which is none. */
    private static boolean isRank(int[] keys) {
        for (int a = 0; a < 4; a++) {
            for (int b = 0; b < a; b++) {
                if (keys[b] == 4 && keys[a] != 4 || keys[a] == keys[b] && keys[a] != 4) {
                    return false;
                }
            }
            if (keys[a] > 4) {
                return false;
            }
        }
        return keys[0] != 4;
    }

    private static String rank(int[] keys) {
        StringBuilder text = new StringBuilder("rank ");
        for (int k = 0; k < 4 && keys[k] < 4; k++) {
            text.append(k == 0 ? "" : ",").append(KEYS[keys[k]]);
        }
        return text.append(';').toString();
    }

    private static void moneyOfTheMost() {
        WharfPapers x = Check.onDay(0);
        x.lot(0, 200, 1, 0, 0);
        for (int i = 0; i < 11; i++) {
            x.line(0, 0, 0, 1, 0, 1);
            x.line(3, 0, 2 * i, i % 8, 0, 9999);
        }
        for (int h = 0; h < 8; h++) {
            x.unpaid(h, 0, 9999);
        }
        isMoney("banks want more than there is", x, 99999, 400, 99599, 0, 0, 0);
        Check.term(x, "rank seller,bank,owner;", 0);
        isMoney("sellers want 79992", x, 99999, 0, 20007, 79992, 0, 0);
        Check.term(x, "let rent 99;rank rent;", 0);
        isMoney("rent in part", x, 19799, 19799, 0, 0, 0, 0);
        isMoney("rent, and nobody gets the rest", x, 99999, 19800, 0, 0, 0, 80199);
        Check.due("25 on the last DAY rent wants more than there is", x.money(0, 99999, 2000, 0), 99999);
        Check.due("25 on the last DAY nothing is left", x.money(0, 99999, 2000, 4), 0);
    }

    private static void moneyOfThatLot() {
        WharfPapers x = indebted();
        x.line(0, 0, 1, 1, 0, 5);
        x.line(3, 0, 4, 3, 0, 7000);
        x.unpaid(3, 1, 400);
        isMoney("of its own", x, 9999, 20, 130, 11, 9838, 0);
        Check.due("25 the other LOT's bank", x.money(1, 9999, 0, 1), 7000);
        Check.due("25 the other LOT's sellers", x.money(1, 9999, 0, 2), 400);
        Check.due("25 the other LOT's owner", x.money(1, 9999, 0, 3), 2579);
    }

    private static void moneyOnADay() {
        WharfPapers x = Check.onDay(10);
        x.lot(0, 10, 1, 0, 0);
        x.go(20);
        x.line(0, 5, 0, 1, 0, 5);
        x.line(3, 7, 0, 0, 0, 100);
        x.line(4, 20, 0, 0, 0, 0);
        x.line(8, 18, 0, 0, 0, 4);
        int[][] due = {{6, 0, 0}, {7, 0, 100}, {9, 0, 100}, {10, 20, 100}, {16, 20, 100}, {17, 40, 100}, {18, 24, 100}, {19, 24, 100}, {20, 24, 0}, {24, 36, 0}};
        for (int[] row : due) {
            Check.due("25 rent on " + row[0], x.money(0, 500, row[0], 0), row[1]);
            Check.due("25 bank on " + row[0], x.money(0, 500, row[0], 1), row[2]);
            Check.due("25 owner on " + row[0], x.money(0, 500, row[0], 3), 500 - row[1] - row[2]);
        }
        x.line(10, 30, 2, 0, 0, 0);
        Check.due("25 AS KNOWN now", x.money(0, 500, 20, 1), 100);
        Check.term(x, "rank owner;", 18);
        Check.due("25 by rank of that DAY", x.money(0, 500, 18, 3), 500);
        Check.due("25 by rank of the DAY before", x.money(0, 500, 17, 3), 360);
    }
}
