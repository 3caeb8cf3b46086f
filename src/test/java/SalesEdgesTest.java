/** Promises 26 to 31 and the first of part 5 of the terms: the edges that the sentences name, one by one. */
public final class SalesEdgesTest {
    private static final int NONE = -1, UNKNOWN = -1001, OUTSIDE = -1002, NOT = -1003, FULL = -1004;

    public static void main(String[] args) {
        salesAreTwentyFour();
        netIsOfEachHouseAndSort();
        netAsARefusalIs();
        handingsOfNone();
        handingsOfGroups();
        handingsOfEachSort();
        duesAreTwentyFour();
        coinIsOfEachHouse();
        lessThanAllThatItOwes();
        nothingOwed();
        eachIsCut();
        roundsInARow();
        fiftyRoundsAtMost();
        failsIsAskedAnew();
        Check.end();
    }

    private static void salesAreTwentyFour() {
        WharfPapers x = new WharfPapers();
        for (int i = 1; i <= 24; i++) {
            Check.due("26 SALE " + i, x.sale(i % 8, (i + 1) % 8, i % 4, i == 1 ? 1 : 99), i);
        }
        Check.due("26 no more", x.sale(0, 1, 0, 1), FULL);
        Check.due("9 SALES", x.count(8), 24);
        WharfPapers y = new WharfPapers();
        y.sale(7, 0, 3, 99);
        Check.due("27 bought", y.net(0, 3), 99);
        Check.due("27 sold", y.net(7, 3), -99);
        y.sale(0, 7, 3, 1);
        Check.due("27 less what it sold", y.net(0, 3), 98);
        Check.due("27 and what it bought", y.net(7, 3), -98);
    }

    private static void netIsOfEachHouseAndSort() {
        WharfPapers x = new WharfPapers();
        for (int s = 0; s < 4; s++) {
            for (int h = 1; h < 6; h++) {
                x.sale(0, h, s, h + 10 * s);
            }
        }
        for (int s = 0; s < 4; s++) {
            Check.due("27 sold to all", x.net(0, s), -(15 + 50 * s));
            for (int h = 1; h < 6; h++) {
                Check.due("27 of HOUSE " + h + ", SORT " + s, x.net(h, s), h + 10 * s);
            }
            Check.due("27 of one that had none", x.net(6, s), 0);
            Check.due("27 of one that had none", x.net(7, s), 0);
        }
    }

    private static void netAsARefusalIs() {
        for (int due : new int[] {UNKNOWN, OUTSIDE, NOT, FULL, NONE}) {
            WharfPapers x = new WharfPapers();
            int left = -due;
            while (left > 0) {
                x.sale(3, 4, 2, Math.min(99, left));
                left -= Math.min(99, left);
            }
            Check.due("27 as a refusal is", x.net(3, 2), due);
            Check.due("27 of the other", x.net(4, 2), -due);
        }
        WharfPapers y = new WharfPapers();
        for (int i = 0; i < 24; i++) {
            y.sale(0, 7, 0, 99);
        }
        Check.due("27 the least", y.net(0, 0), -2376);
        Check.due("27 the most", y.net(7, 0), 2376);
        Check.due("28 one", y.handings(0), 1);
    }

    private static void handingsOfNone() {
        WharfPapers x = new WharfPapers();
        Check.due("28 no SALES", x.handings(0), 0);
        x.sale(0, 1, 0, 5);
        Check.due("28 one", x.handings(0), 1);
        x.sale(1, 0, 0, 4);
        Check.due("28 still one", x.handings(0), 1);
        x.sale(1, 0, 0, 1);
        Check.due("28 all are 0", x.handings(0), 0);
        for (int h = 0; h < 8; h++) {
            x.sale(h, (h + 1) % 8, 0, 50);
        }
        Check.due("28 a ring: all are 0", x.handings(0), 0);
    }

    /** NETS of HOUSES 0 to 6 are as told; HOUSE 7 has what is left. */
    private static void isHandings(String what, int due, int... nets) {
        WharfPapers x = new WharfPapers();
        for (int h = 0; h < nets.length; h++) {
            if (nets[h] < 0) {
                x.sale(h, 7, 1, -nets[h]);
            } else if (nets[h] > 0) {
                x.sale(7, h, 1, nets[h]);
            }
        }
        for (int h = 0; h < nets.length; h++) {
            Check.due("27 " + what + ": HOUSE " + h, x.net(h, 1), nets[h]);
        }
        Check.due("28 " + what, x.handings(1), due);
    }

    private static void handingsOfGroups() {
        isHandings("-1 and 1", 1, -1);
        isHandings("-1 -1 and 2", 2, -1, -1);
        isHandings("-1 1, and 0", 1, -1, 1);
        isHandings("-1 1, -2 and 2", 2, -1, 1, -2);
        isHandings("-1 -2 3, -4 and 4", 3, -1, -2, 3, -4);
        isHandings("-1 -2 3, -4 -5 and 9", 4, -1, -2, 3, -4, -5);
        isHandings("-1 -2 3, -4 -5 9, -7 and 7", 5, -1, -2, 3, -4, -5, 9, -7);
        isHandings("four pairs", 4, -1, 1, -2, 2, -3, 3, -4);
        isHandings("the same pairs, mixed", 4, -1, -2, -3, -4, 1, 2, 3);
        isHandings("-1 -2 -3 6, -10 -20 -30 and 60", 6, -1, -2, -3, 6, -10, -20, -30);
        isHandings("-5 2 3, -11 4 1 1 and 5", 6, -5, 2, 3, -11, 4, 1, 1);
        isHandings("seven to one", 7, -1, -2, -4, -8, -16, -32, -64);
        isHandings("seven from one", 7, 1, 2, 4, 8, 16, 32, 64);
        isHandings("no group but all: -9 -9 -9 4 4 4 and 15", 6, -9, -9, -9, 4, 4, 4);
        isHandings("-3 -3 -3 -3 4 4 and 4", 6, -3, -3, -3, -3, 4, 4);
        isHandings("the most and the least", 4, 99, -99, 99, -99, 99, -99, 99);
    }

    private static void handingsOfEachSort() {
        WharfPapers x = new WharfPapers();
        for (int s = 0; s < 4; s++) {
            for (int h = 0; h <= s; h++) {
                x.sale(h, h + 4, s, 7);
            }
        }
        for (int s = 0; s < 4; s++) {
            Check.due("28 SORT " + s, x.handings(s), s + 1);
        }
        // nor what is sold of one SORT settled by another
        WharfPapers y = new WharfPapers();
        y.sale(0, 1, 0, 7);
        y.sale(1, 0, 1, 7);
        Check.due("28 each by itself", y.handings(0) + y.handings(1), 2);
    }

    private static void duesAreTwentyFour() {
        WharfPapers x = new WharfPapers();
        for (int i = 1; i <= 24; i++) {
            Check.due("29 DUE " + i, x.due(i % 8, (i + 3) % 8, i == 1 ? 1 : 9999), i);
        }
        Check.due("29 no more", x.due(0, 1, 1), FULL);
        Check.due("9 DUES", x.count(9), 24);
        Check.due("31 owes", x.fails(1, 3), 1 + 9999 + 9999);
        Check.due("31 owes", x.fails(0, 3), 3 * 9999);
    }

    private static void coinIsOfEachHouse() {
        WharfPapers x = new WharfPapers();
        for (int h = 0; h < 8; h++) {
            Check.due("30 0 at first", x.coin(h, h + 1), 0);
        }
        for (int h = 0; h < 8; h++) {
            Check.due("31 has its COIN", x.fails(h, 1), h + 1);
            Check.due("30 each its own", x.coin(h, 9999), h + 1);
            Check.due("30 the most", x.coin(h, 0), 9999);
            Check.due("30 none", x.coin(h, 0), 0);
        }
    }

    private static void isHouse(String what, WharfPapers x, int house, int... due) {
        for (int k = 0; k < 4; k++) {
            Check.due("31 " + what + ": fails(" + house + ", " + k + ")", x.fails(house, k), due[k]);
        }
    }

    private static void areRounds(String what, WharfPapers x, int rounds, int failing) {
        Check.due("31 " + what + ": ROUNDS", x.fails(NONE, 4), rounds);
        Check.due("31 " + what + ": FAIL", x.fails(NONE, 5), failing);
    }

    private static void lessThanAllThatItOwes() {
        for (int coin : new int[] {0, 1, 9998, 9999}) {
            WharfPapers x = new WharfPapers();
            x.due(7, 0, 9999);
            x.coin(7, coin);
            boolean isShort = coin < 9999;
            isHouse("COIN " + coin, x, 7, isShort ? 1 : 0, coin, coin, 9999);
            isHouse("COIN " + coin, x, 0, 0, coin, 0, 0);
            areRounds("COIN " + coin, x, isShort ? 1 : 0, isShort ? 1 : 0);
        }
        WharfPapers one = new WharfPapers();
        one.due(3, 4, 1);
        isHouse("1 is all that it owes", one, 3, 1, 0, 0, 1);
        isHouse("1 is all that it is owed", one, 4, 0, 0, 0, 0);
        areRounds("1 is all that is owed", one, 1, 1);
        one.coin(3, 1);
        isHouse("it has that 1", one, 3, 0, 1, 1, 1);
        isHouse("it gets that 1", one, 4, 0, 1, 0, 0);
        areRounds("it has that 1", one, 0, 0);
        WharfPapers y = new WharfPapers();
        y.due(0, 1, 10);
        y.due(2, 0, 4);
        y.coin(2, 4);
        y.coin(0, 5);
        isHouse("COIN and what it is given, one too few", y, 0, 1, 9, 9, 10);
        y.coin(0, 6);
        isHouse("COIN and what it is given, enough", y, 0, 0, 10, 10, 10);
        y.coin(0, 7);
        isHouse("one more stays with it", y, 0, 0, 11, 10, 10);
    }

    private static void nothingOwed() {
        WharfPapers x = new WharfPapers();
        for (int h = 0; h < 8; h++) {
            isHouse("nothing owed", x, h, 0, 0, 0, 0);
        }
        areRounds("nothing owed", x, 0, 0);
        x.due(1, 0, 5);
        isHouse("given nothing, owes nothing", x, 0, 0, 0, 0, 0);
        isHouse("owes", x, 1, 1, 0, 0, 5);
        areRounds("one owes", x, 1, 1);
    }

    private static void eachIsCut() {
        WharfPapers x = new WharfPapers();
        x.coin(0, 9);
        for (int h = 1; h < 8; h++) {
            x.due(0, h, h == 7 ? 4 : 1);
        }
        // 10 are owed: six of 1 * 9 / 10, one of 4 * 9 / 10
        isHouse("cut", x, 0, 1, 9, 3, 10);
        for (int h = 1; h < 8; h++) {
            isHouse("cut", x, h, 0, h == 7 ? 3 : 0, 0, 0);
        }
        WharfPapers y = new WharfPapers();
        y.coin(0, 9);
        y.due(0, 1, 5);
        y.due(0, 1, 5);
        isHouse("two DUES to one are cut each: 45 / 10", y, 0, 1, 9, 8, 10);
        isHouse("two DUES to one are cut each: 45 / 10", y, 1, 0, 8, 0, 0);
        WharfPapers z = new WharfPapers();
        for (int i = 0; i < 24; i++) {
            z.due(0, 1 + i % 7, 9999);
        }
        z.coin(0, 9999);
        isHouse("the most: 9999 * 9999 / 239976", z, 0, 1, 9999, 24 * 416, 24 * 9999);
        isHouse("four of these", z, 1, 0, 4 * 416, 0, 0);
        isHouse("three", z, 7, 0, 3 * 416, 0, 0);
    }

    /** Each ROUND one more of a row FAILS. */
    private static void roundsInARow() {
        WharfPapers x = new WharfPapers();
        for (int h = 0; h < 7; h++) {
            x.due(h, h + 1, 100);
            x.coin(0, 99);
            areRounds("a row of " + (h + 1), x, h + 1, h + 1);
            isHouse("the last of the row", x, h, 1, 99, 99, 100);
            isHouse("the one behind it", x, h + 1, 0, 99, 0, 0);
        }
        x.coin(3, 1);
        areRounds("one with COIN of its own ends it", x, 3, 3);
        isHouse("it does not FAIL", x, 3, 0, 100, 100, 100);
        x.coin(0, 100);
        areRounds("none FAILS", x, 0, 0);
    }

    private static WharfPapers ring(int houses, int v) {
        WharfPapers x = new WharfPapers();
        for (int h = 0; h < houses - 1; h++) {
            x.due(h, h + 1, v);
        }
        x.due(houses - 1, 0, v - 1);
        x.due(houses - 1, houses, 1);
        return x;
    }

    /**
     * A ring from which one goes in each turn. Of three HOUSES with 17: HOUSE 0 gives 17 - k in ROUND
     * 3k - 2 and none in the 49th, HOUSE 1 each time a ROUND later, none in the 50th.
     */
    private static void fiftyRoundsAtMost() {
        WharfPapers x = ring(2, 25);
        areRounds("a ring of two with 25", x, 49, 2);
        isHouse("nothing is left", x, 0, 1, 0, 0, 25);
        isHouse("nothing is left", x, 1, 1, 0, 0, 25);
        WharfPapers y = ring(3, 17);
        areRounds("a ring of three with 17", y, 50, 3);
        for (int h = 0; h < 3; h++) {
            isHouse("nothing is left", y, h, 1, 0, 0, 17);
        }
        WharfPapers z = ring(4, 13);
        areRounds("a ring of four with 13 needs 51", z, 50, 4);
        isHouse("behind the 50th", z, 0, 1, 0, 0, 13);
        isHouse("behind the 50th", z, 1, 1, 0, 0, 13);
        isHouse("behind the 50th it still gives one", z, 2, 1, 0, 1, 13);
        isHouse("behind the 50th it still has one", z, 3, 1, 1, 0, 13);
        isHouse("was never given any", z, 4, 0, 0, 0, 0);
    }

    private static void failsIsAskedAnew() {
        WharfPapers x = ring(2, 25);
        isHouse("asked twice", x, 0, 1, 0, 0, 25);
        isHouse("asked twice", x, 0, 1, 0, 0, 25);
        x.coin(0, 1);
        isHouse("with one more", x, 0, 0, 25, 25, 25);
        areRounds("with one more", x, 0, 0);
        x.coin(0, 0);
        areRounds("without it", x, 49, 2);
        x.due(5, 0, 1);
        x.coin(5, 1);
        areRounds("given by another", x, 0, 0);
    }
}
