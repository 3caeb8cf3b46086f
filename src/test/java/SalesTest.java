/** Promises 26 to 31. */
public final class SalesTest {
    private static final int NONE = -1, UNKNOWN = -1001, OUTSIDE = -1002, FULL = -1004;

    public static void main(String[] args) {
        sale();
        net();
        handings();
        due();
        coin();
        failsRefusals();
        fails();
        failsByParts();
        failsSlowly();
        failsInTheLastRound();
        Check.end();
    }

    private static void sale() {
        WharfPapers x = new WharfPapers();
        Check.due("26 no HOUSE a", x.sale(8, 0, 0, 1), UNKNOWN);
        Check.due("26 no HOUSE b", x.sale(0, -1, 9, 1), UNKNOWN);
        Check.due("26 one HOUSE twice", x.sale(8, 8, 0, 1), UNKNOWN);
        Check.due("26 one HOUSE twice", x.sale(7, 7, 0, 1), OUTSIDE);
        Check.due("26 SORT 4", x.sale(0, 1, 4, 1), OUTSIDE);
        Check.due("26 SORT -1", x.sale(0, 1, -1, 1), OUTSIDE);
        Check.due("26 n 0", x.sale(0, 1, 0, 0), OUTSIDE);
        Check.due("26 n 100", x.sale(0, 1, 0, 100), OUTSIDE);
        for (int i = 1; i <= 24; i++) {
            Check.due("26 SALE " + i, x.sale(0, 1, 3, 99), i);
        }
        Check.due("26 full", x.sale(0, 1, 0, 1), FULL);
        Check.due("26 full and OUTSIDE", x.sale(0, 0, 0, 1), OUTSIDE);
        Check.due("9 SALES", x.count(8), 24);
        Check.due("27 as low as can be", x.net(0, 3), -24 * 99);
        Check.due("27 as high as can be", x.net(1, 3), 24 * 99);
    }

    private static void net() {
        WharfPapers x = new WharfPapers();
        x.sale(0, 1, 0, 5);
        x.sale(1, 2, 0, 3);
        x.sale(1, 0, 0, 1);
        x.sale(2, 0, 1, 50);
        Check.due("27", x.net(0, 0), -4);
        Check.due("27", x.net(1, 0), 1);
        Check.due("27", x.net(2, 0), 3);
        Check.due("27 another SORT", x.net(0, 1), 50);
        Check.due("27 no HOUSE", x.net(8, 4), UNKNOWN);
        Check.due("27 HOUSE -1", x.net(-1, 0), UNKNOWN);
        Check.due("27 SORT 4", x.net(0, 4), OUTSIDE);
        Check.due("27 SORT -1", x.net(0, -1), OUTSIDE);
        WharfPapers y = new WharfPapers();
        for (int i = 0; i < 10; i++) {
            y.sale(0, 1, 0, 99);
        }
        y.sale(0, 1, 0, 11);
        Check.due("27 as a refusal is", y.net(0, 0), -1001);
    }

    private static void handings() {
        WharfPapers x = new WharfPapers();
        Check.due("28 SORT -1", x.handings(-1), OUTSIDE);
        Check.due("28 SORT 4", x.handings(4), OUTSIDE);
        Check.due("28 none", x.handings(0), 0);
        // 0: -6, 1: -4, 2: -3, 3: -7, 4: 5, 5: 5, 6: 10: groups {0, 1, 6}, {2, 3, 4, 5}
        x.sale(0, 4, 2, 5);
        x.sale(0, 5, 2, 1);
        x.sale(1, 5, 2, 4);
        x.sale(2, 6, 2, 3);
        x.sale(3, 6, 2, 7);
        Check.due("28 seven HOUSES in two groups at the most", x.handings(2), 5);
        Check.due("28 another SORT", x.handings(1), 0);
        x.sale(6, 7, 2, 10);
        Check.due("28 one HOUSE for another", x.handings(2), 5);
        x.sale(7, 4, 2, 1);
        Check.due("28 other groups: {0, 4} and the rest", x.handings(2), 5);
        x.sale(0, 4, 2, 1);
        Check.due("28 a pair still: {3, 4}", x.handings(2), 5);
        x.sale(4, 7, 2, 4);
        Check.due("28 -7 -4 -3 -7 and 3 5 13: {2, 4} and the rest", x.handings(2), 5);
        x.sale(4, 5, 2, 1);
        Check.due("28 -7 -4 -3 -7 and 2 6 13: one group", x.handings(2), 6);
        WharfPapers y = new WharfPapers();
        for (int h = 0; h < 8; h += 2) {
            y.sale(h, h + 1, 0, 7);
        }
        Check.due("28 four pairs", y.handings(0), 4);
        y.sale(1, 0, 0, 7);
        Check.due("28 three pairs", y.handings(0), 3);
        WharfPapers z = new WharfPapers();
        for (int h = 1; h < 8; h++) {
            z.sale(0, h, 0, 9);
        }
        Check.due("28 one to seven", z.handings(0), 7);
    }

    private static void due() {
        WharfPapers x = new WharfPapers();
        Check.due("29 no HOUSE a", x.due(-1, 0, 0), UNKNOWN);
        Check.due("29 no HOUSE b", x.due(0, 8, 0), UNKNOWN);
        Check.due("29 one HOUSE twice", x.due(3, 3, 1), OUTSIDE);
        Check.due("29 0", x.due(3, 4, 0), OUTSIDE);
        Check.due("29 10000", x.due(3, 4, 10000), OUTSIDE);
        for (int i = 1; i <= 24; i++) {
            Check.due("29 DUE " + i, x.due(6, 7, 9999), i);
        }
        Check.due("29 full", x.due(0, 1, 1), FULL);
        Check.due("29 full and OUTSIDE", x.due(0, 1, 0), OUTSIDE);
        Check.due("9 DUES", x.count(9), 24);
        Check.due("31 owes", x.fails(6, 3), 24 * 9999);
        Check.due("31 is given nothing", x.fails(7, 1), 0);
        Check.due("30", x.coin(6, 9999), 0);
        // 24 times 9999 * 9999 / (24 * 9999), cut: 416 each
        Check.due("31 gives", x.fails(6, 2), 24 * 416);
        Check.due("31 is given", x.fails(7, 1), 24 * 416);
    }

    private static void coin() {
        WharfPapers x = new WharfPapers();
        Check.due("30 no HOUSE", x.coin(8, -1), UNKNOWN);
        Check.due("30 HOUSE -1", x.coin(-1, 0), UNKNOWN);
        Check.due("30 -1", x.coin(0, -1), OUTSIDE);
        Check.due("30 10000", x.coin(0, 10000), OUTSIDE);
        Check.due("30 first", x.coin(0, 9999), 0);
        Check.due("30 then", x.coin(0, 1), 9999);
        Check.due("31 has", x.fails(0, 1), 1);
    }

    private static void failsRefusals() {
        WharfPapers x = new WharfPapers();
        Check.due("31 HOUSE 8", x.fails(8, 9), UNKNOWN);
        Check.due("31 HOUSE -2", x.fails(-2, 4), UNKNOWN);
        Check.due("31 what 4 of a HOUSE", x.fails(0, 4), OUTSIDE);
        Check.due("31 what -1 of a HOUSE", x.fails(0, -1), OUTSIDE);
        Check.due("31 what 3 of NONE", x.fails(NONE, 3), OUTSIDE);
        Check.due("31 what 6 of NONE", x.fails(NONE, 6), OUTSIDE);
        Check.due("31 no ROUND", x.fails(NONE, 4), 0);
        Check.due("31 none FAILS", x.fails(NONE, 5), 0);
    }

    private static void isHouse(WharfPapers x, int house, int... due) {
        for (int k = 0; k < due.length; k++) {
            Check.due("31 fails(" + house + ", " + k + ")", x.fails(house, k), due[k]);
        }
    }

    private static void fails() {
        WharfPapers x = new WharfPapers();
        x.coin(0, 30);
        x.due(0, 1, 30);
        x.due(1, 2, 30);
        x.due(2, 3, 30);
        isHouse(x, 0, 0, 30, 30, 30);
        isHouse(x, 1, 0, 30, 30, 30);
        isHouse(x, 3, 0, 30, 0, 0);
        Check.due("31 nothing changed", x.fails(NONE, 4), 0);
        x.coin(0, 29);
        isHouse(x, 0, 1, 29, 29, 30);
        isHouse(x, 1, 1, 29, 29, 30);
        isHouse(x, 2, 1, 29, 29, 30);
        isHouse(x, 3, 0, 29, 0, 0);
        Check.due("31 one FAILS behind the other", x.fails(NONE, 4), 3);
        Check.due("31 three FAIL", x.fails(NONE, 5), 3);
        x.coin(1, 1);
        Check.due("31 one FAILS", x.fails(NONE, 5), 1);
        Check.due("31 one ROUND", x.fails(NONE, 4), 1);
        isHouse(x, 1, 0, 30, 30, 30);
    }

    private static void failsByParts() {
        WharfPapers x = new WharfPapers();
        x.coin(0, 5);
        x.due(0, 1, 3);
        x.due(0, 1, 4);
        // each DUE is cut by itself: 3 * 5 / 7 and 4 * 5 / 7
        isHouse(x, 0, 1, 5, 4, 7);
        isHouse(x, 1, 0, 4, 0, 0);
        WharfPapers y = new WharfPapers();
        y.due(0, 1, 10);
        y.due(1, 0, 10);
        isHouse(y, 0, 0, 10, 10, 10);
        Check.due("31 a ring without COIN", y.fails(NONE, 5), 0);
        y.due(1, 2, 10);
        isHouse(y, 0, 1, 0, 0, 10);
        isHouse(y, 1, 1, 0, 0, 20);
        isHouse(y, 2, 0, 0, 0, 0);
    }

    /** A ring that loses one in each turn is still changing when the ROUNDS end. */
    private static void failsSlowly() {
        WharfPapers x = new WharfPapers();
        x.due(0, 1, 9999);
        x.due(1, 0, 9998);
        x.due(1, 2, 1);
        Check.due("31 50 ROUNDS", x.fails(NONE, 4), 50);
        Check.due("31 two FAIL", x.fails(NONE, 5), 2);
        // HOUSE 0 gives 9999, then 9998 in ROUND 1, and one less in every second ROUND: 9974 in the 50th;
        // HOUSE 1 gives 9998, then 9997 in ROUND 2, and so on: 9973 in the 50th
        Check.due("31 gives", x.fails(0, 2), 9974);
        Check.due("31 gives", x.fails(1, 2), 9973);
        Check.due("31 has what it is given behind all ROUNDS", x.fails(0, 1), 9973);
        Check.due("31 has what it is given behind all ROUNDS", x.fails(1, 1), 9974);
        Check.due("31 is given nothing", x.fails(2, 1), 0);
    }

    /** The 50th ROUND is the first behind which HOUSE 6 has less than 289; in it, it still gave all. */
    private static void failsInTheLastRound() {
        WharfPapers x = new WharfPapers();
        x.due(5, 2, 9999);
        x.due(2, 0, 9999);
        x.due(0, 1, 9999);
        x.due(1, 5, 9999);
        x.due(5, 1, 50);
        x.due(2, 6, 1000);
        isHouse(x, 6, 0, 288, 0, 0);
        Check.due("31 50 ROUNDS", x.fails(NONE, 4), 50);
        Check.due("31 the four of the ring FAIL", x.fails(NONE, 5), 4);
        x.due(6, 3, 289);
        isHouse(x, 6, 1, 288, 289, 289);
        isHouse(x, 3, 0, 289, 0, 0);
        Check.due("31 50 ROUNDS", x.fails(NONE, 4), 50);
        Check.due("31 HOUSE 6 FAILS too", x.fails(NONE, 5), 5);
        x.coin(6, 1);
        isHouse(x, 6, 0, 289, 289, 289);
        Check.due("31 HOUSE 6 FAILS no more", x.fails(NONE, 5), 4);
    }
}
