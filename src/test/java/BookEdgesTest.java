/** Promises 1 to 9 and part 1 of the terms: the edges that the sentences name, one by one. */
public final class BookEdgesTest {
    private static final int NONE = -1, UNKNOWN = -1001, NOT = -1003, FULL = -1004;

    public static void main(String[] args) {
        nothingAtFirst();
        nowGoesOnByDays();
        lotsAreTwelve();
        lotsAreOfNow();
        roomIsOfEachFloor();
        movesGoToAnotherFloor();
        warrantsAreNamedByLines();
        linesAreOfAnyDayUpToNow();
        whatALineHasNot();
        linesAreKnownFromTheirDayOn();
        voidsAreKnownFromTheirDayOn();
        voidOfVoidOfVoid();
        twoVoidsOfOneLine();
        bookOfOneDayGoesByNumbers();
        bookOf120();
        vainUntilVoid();
        countsOfPapersWithCasks();
        countsOfDoubleIssues();
        Check.end();
    }

    private static void nothingAtFirst() {
        WharfPapers x = new WharfPapers();
        for (int what = 0; what < 12; what++) {
            Check.due("1 count " + what, x.count(what), 0);
        }
        for (int day : new int[] {0, 2000}) {
            Check.due("1 no news", x.news(day, 0, 0), 0);
        }
        Check.due("1 THE BOOK is empty", x.book(0, 0), NONE);
        for (int h = 0; h < 8; h++) {
            for (int s = 0; s < 4; s++) {
                Check.due("1 stock", x.stock(h, s, 0) + x.stock(h, s, 1), 0);
                Check.due("1 net", x.net(h, s), 0);
                Check.due("1 fails " + s, x.fails(h, s), 0);
            }
        }
        for (int s = 0; s < 4; s++) {
            Check.due("1 handings", x.handings(s), 0);
            for (int t = 0; t < 4; t++) {
                if (s != t) {
                    Check.due("1 not PARTED", x.part(s, t, false), 0);
                }
            }
        }
        Check.due("1 no ROUNDS", x.fails(NONE, 4), 0);
        Check.due("1 none FAILS", x.fails(NONE, 5), 0);
        int[] unknown = {x.told(0, 0), x.paper(0, 0, 0, 0), x.goods(0, 0, 0, 0), x.share(0, 0, 0, 0), x.doubt(0, 0, 0, NONE),
            x.rent(0, 0), x.weight(0, 0), x.weigh(0, 1, 1), x.loss(0, 0), x.unpaid(0, 0, 0), x.money(0, 0, 0, 0), x.move(0, 0),
            x.plan(1, NONE), x.plan(0, 0), x.line(0, 0, 0, 0, 0, 1), x.line(10, 0, 0, 0, 0, 0)};
        for (int k = 0; k < unknown.length; k++) {
            Check.due("1 there is none, " + k, unknown[k], UNKNOWN);
        }
    }

    private static void nowGoesOnByDays() {
        WharfPapers x = new WharfPapers();
        Check.due("2 from 0 by 1", x.go(1), 1);
        Check.due("2 by the most", x.go(999), 1000);
        Check.due("2 again", x.go(999), 1999);
        Check.due("2 2001 is too many", x.go(2), NOT);
        Check.due("2 the most is too many", x.go(999), NOT);
        Check.due("2 it stayed", x.go(0), 1999);
        Check.due("2 the last DAY", x.go(1), 2000);
        Check.due("2 no DAY is behind it", x.go(1), NOT);
        Check.due("2 none but itself", x.go(0), 2000);
        Check.due("9 NOW", x.count(0), 2000);
        x.lot(0, 1, 1, 0, 0);
        Check.due("6 a LINE of the last DAY", x.line(8, 2000, 0, 0, 0, 1), 0);
        Check.due("8 THE BOOK of the last DAY", x.book(2000, 0), 0);
        Check.due("8 THE BOOK of the DAY before", x.book(1999, 0), NONE);
    }

    private static void lotsAreTwelve() {
        WharfPapers x = new WharfPapers();
        for (int l = 0; l < 12; l++) {
            Check.due("3 LOT " + l, x.lot(3, 200, 999, 7, 5), l);
            Check.due("3 it is not there ahead of that", x.goods(l + 1, 0, 0, 0), UNKNOWN);
        }
        Check.due("3 no thirteenth", x.lot(0, 1, 1, 0, 0), FULL);
        Check.due("9 LOTS", x.count(1), 12);
        Check.due("15 the last is as it was told", x.goods(11, 0, 0, 0), 200);
        Check.due("5 the last is where it was told", x.move(11, 0), 5);
        Check.due("21 the last weighs as it was told", x.weight(11, 0), 999);
    }

    private static void lotsAreOfNow() {
        WharfPapers x = new WharfPapers();
        x.lot(0, 1, 100, 0, 0);
        x.go(7);
        x.lot(0, 1, 100, 0, 0);
        Check.due("3 since 0: two WEEKS are begun", x.rent(0, 7), 4);
        Check.due("3 since 7: one is", x.rent(1, 7), 2);
        Check.due("3 since 7: none on 6", x.rent(1, 6), 0);
        x.room(0, 0);
        Check.due("3 ROOM is not asked", x.lot(0, 200, 1, 0, 0), 2);
    }

    private static void roomIsOfEachFloor() {
        WharfPapers x = new WharfPapers();
        for (int f = 0; f < 6; f++) {
            Check.due("4 200 at first", x.room(f, f), 200);
        }
        for (int f = 0; f < 6; f++) {
            Check.due("4 each its own", x.room(f, 999), f);
            Check.due("4 the most", x.room(f, 0), 999);
            Check.due("4 none", x.room(f, 0), 0);
        }
    }

    private static void movesGoToAnotherFloor() {
        WharfPapers x = Check.withLots(200, 200);
        Check.due("5 to where it is", x.move(0, 0), NOT);
        Check.due("5 ROOM is not asked", x.move(0, 5), 0);
        Check.due("5 nor with another one there", x.move(1, 5), 0);
        Check.due("5 it is there", x.move(1, 5), NOT);
        Check.due("5 back", x.move(1, 0), 5);
        Check.due("5 the other stayed", x.move(0, 5), NOT);
    }

    private static void warrantsAreNamedByLines() {
        WharfPapers x = Check.withLots(10);
        x.line(8, 0, 0, 0, 0, 1);
        Check.due("6 the number of its LINE", x.line(0, 0, 0, 3, 0, 5), 1);
        x.line(8, 0, 0, 0, 0, 1);
        Check.due("6 of a PART too", x.line(2, 0, 1, 0, 0, 2), 3);
        Check.due("14 of 5, 2 are parted", x.paper(1, 0, 0, 0), 3);
        Check.due("14 these", x.paper(3, 0, 0, 0), 2);
        Check.due("14 a BURNT is none", x.paper(0, 0, 0, 0), UNKNOWN);
        Check.due("14 a LINE that there is not is none", x.paper(4, 0, 0, 0), UNKNOWN);
        for (int kind : new int[] {1, 2, 3, 4, 5, 6, 7, 9}) {
            Check.due("6 KIND " + kind + " of a BURNT", x.line(kind, 0, 2, 0, 0, 1), UNKNOWN);
            Check.due("6 KIND " + kind + " of itself", x.line(kind, 0, 4, 0, 0, 1), UNKNOWN);
        }
        Check.due("6 the first LINE that is no WARRANT may be VOID", x.line(10, 0, 0, 0, 0, 0), 4);
        Check.due("6 and that VOID", x.line(10, 0, 4, 0, 0, 0), 5);
        Check.due("6 but not itself", x.line(10, 0, 6, 0, 0, 0), UNKNOWN);
        Check.due("6 a VOID WARRANT is one still", x.line(10, 0, 1, 0, 0, 0), 6);
        Check.due("6 by what was told already", x.line(1, 0, 1, 0, 3, 1), 7);
        Check.due("14 it is one that is not there", x.paper(1, 0, 0, 0), NOT);
    }

    private static void linesAreOfAnyDayUpToNow() {
        WharfPapers x = Check.withLots(10);
        x.go(9);
        Check.due("6 done on DAY 0", x.line(0, 0, 0, 1, 0, 1), 0);
        Check.due("6 done at NOW", x.line(0, 9, 0, 1, 0, 1), 1);
        Check.due("6 done after NOW", x.line(0, 10, 0, 1, 0, 1), -1002);
        for (int i = 0; i < 2; i++) {
            Check.due("7 its DAY", x.told(i, 1), 9 * i);
            Check.due("7 told at NOW", x.told(i, 2), 9);
        }
        x.lot(0, 10, 1, 0, 0);
        Check.due("6 a LINE done ahead of the DAY of its LOT", x.line(0, 0, 1, 1, 0, 1), 2);
        Check.due("7 is not VAIN for that", x.told(2, 8), 0);
        Check.due("14 it is there", x.paper(2, 0, 9, 0), 1);
    }

    private static void whatALineHasNot() {
        int[][] has = {{1, 0, 1}, {1, 1, 1}, {0, 0, 1}, {1, 0, 1}, {0, 0, 0}, {1, 0, 0}, {0, 0, 0}, {0, 0, 1}, {0, 0, 1}, {1, 0, 0}, {0, 0, 0}};
        for (int kind = 0; kind <= 10; kind++) {
            for (int v = 0; v <= 1; v++) {
                WharfPapers x = Check.withLots(10);
                x.line(0, 0, 0, 1, 0, 5);
                int i = x.line(kind, 0, 0, v * 7, v * 6, kind == 1 ? v : 1 + v);
                Check.due("7 KIND", x.told(i, 0), kind);
                Check.due("7 target of KIND " + kind, x.told(i, 3), 0);
                Check.due("7 p of KIND " + kind, x.told(i, 4), has[kind][0] == 1 ? v * 7 : NONE);
                Check.due("7 q of KIND " + kind, x.told(i, 5), has[kind][1] == 1 ? v * 6 : NONE);
                Check.due("7 n of KIND " + kind, x.told(i, 6), has[kind][2] == 0 ? NONE : kind == 1 ? v : 1 + v);
            }
        }
    }

    private static void linesAreKnownFromTheirDayOn() {
        WharfPapers x = Check.withLots(10);
        x.go(4);
        x.line(0, 1, 0, 2, 0, 5);
        x.go(4);
        for (int known = 0; known <= 8; known++) {
            boolean is = known >= 4;
            Check.due("8 told on 4, known on " + known, x.book(known, 0), is ? 0 : NONE);
            Check.due("14 told on 4, known on " + known, x.paper(0, 1, known, 0), is ? 5 : NOT);
            Check.due("15 told on 4, known on " + known, x.goods(0, 1, known, 3), is ? 5 : 0);
            Check.due("14 done on 1, not on 0", x.paper(0, 0, known, 0), NOT);
            Check.due("19 news between 3 and " + known, x.news(1, 3, known), is ? 1 : 0);
        }
    }

    private static void voidsAreKnownFromTheirDayOn() {
        WharfPapers x = Check.withLots(10);
        x.line(0, 0, 0, 2, 0, 5);
        x.go(4);
        x.line(10, 0, 0, 0, 0, 0);
        x.go(4);
        for (int known = 0; known <= 8; known++) {
            boolean is = known < 4;
            Check.due("8 VOID from 4 on, known on " + known, x.book(known, 0), is ? 0 : 1);
            Check.due("8 the VOID itself is in THE BOOK", x.book(known, 1), NONE);
            Check.due("14 VOID from 4 on, known on " + known, x.paper(0, 0, known, 0), is ? 5 : NOT);
        }
        Check.due("7 VOID", x.told(0, 7), 1);
        Check.due("7 the VOID is not", x.told(1, 7), 0);
        Check.due("9 one", x.count(3), 1);
    }

    /** Each VOID in a row makes the one ahead of it nothing, on one same DAY. */
    private static void voidOfVoidOfVoid() {
        WharfPapers x = Check.withLots(10);
        x.line(0, 0, 0, 2, 0, 5);
        for (int last = 1; last <= 6; last++) {
            x.line(10, 0, last - 1, 0, 0, 0);
            for (int i = 0; i <= last; i++) {
                int due = (last - i) % 2;
                Check.due("7 of " + last + " VOIDS in a row, " + i, x.told(i, 7), due);
            }
            Check.due("14 of " + last, x.paper(0, 0, 0, 0), last % 2 == 0 ? 5 : NOT);
            Check.due("9 of " + last, x.count(3), (last + 1) / 2);
        }
    }

    private static void twoVoidsOfOneLine() {
        WharfPapers x = Check.withLots(10);
        x.line(0, 0, 0, 2, 0, 5);
        x.line(10, 0, 0, 0, 0, 0);
        x.line(10, 0, 0, 0, 0, 0);
        Check.due("9 one is VOID, by two", x.count(3), 1);
        Check.due("7 neither is VAIN", x.told(1, 8) + x.told(2, 8), 0);
        x.line(10, 0, 1, 0, 0, 0);
        Check.due("7 VOID by the other still", x.told(0, 7), 1);
        x.line(10, 0, 2, 0, 0, 0);
        Check.due("7 VOID by none", x.told(0, 7), 0);
        Check.due("9 two are VOID", x.count(3), 2);
        x.line(10, 0, 4, 0, 0, 0);
        Check.due("7 VOID again", x.told(0, 7), 1);
        Check.due("8 the first of THE BOOK", x.book(0, 0), 2);
        Check.due("8 the second", x.book(0, 1), 3);
        Check.due("8 the last", x.book(0, 2), 5);
        Check.due("8 none behind it", x.book(0, 3), NONE);
    }

    private static void bookOfOneDayGoesByNumbers() {
        WharfPapers x = Check.withLots(10);
        x.go(3);
        int[] days = {2, 1, 2, 1, 3, 0, 3, 0};
        for (int day : days) {
            x.line(0, day, 0, 0, 0, 1);
        }
        int[] due = {5, 7, 1, 3, 0, 2, 4, 6, NONE};
        for (int i = 0; i < due.length; i++) {
            Check.due("8 by DAYS, then numbers: " + i, x.book(3, i), due[i]);
        }
        for (int i : new int[] {-1, -2, Integer.MIN_VALUE, 8, 120, Integer.MAX_VALUE}) {
            Check.due("8 none is the " + i + "-th", x.book(3, i), NONE);
        }
    }

    private static void bookOf120() {
        WharfPapers x = Check.withLots(1);
        x.go(119);
        for (int i = 0; i < 120; i++) {
            Check.due("6 LINE " + i, x.line(8, 119 - i, 0, 0, 0, 1), i);
        }
        Check.due("6 no 121st", x.line(8, 0, 0, 0, 0, 1), FULL);
        for (int i = 0; i < 120; i++) {
            Check.due("8 the last told is the first done: " + i, x.book(119, i), 119 - i);
        }
        Check.due("8 none behind the last", x.book(119, 120), NONE);
        Check.due("9 the first done burnt the cask", x.count(4), 119);
        Check.due("7 that one", x.told(119, 8), 0);
        Check.due("7 the one behind it", x.told(118, 8), 1);
        Check.due("7 the first told", x.told(0, 8), 1);
    }

    private static void vainUntilVoid() {
        WharfPapers x = Check.withLots(10);
        x.line(8, 0, 0, 0, 0, 11);
        Check.due("7 VAIN", x.told(0, 8), 1);
        Check.due("9 VAIN", x.count(4), 1);
        x.line(10, 0, 0, 0, 0, 0);
        Check.due("7 a VOID one 0", x.told(0, 8), 0);
        Check.due("9 none VAIN", x.count(4), 0);
        Check.due("9 one VOID", x.count(3), 1);
        x.line(10, 0, 1, 0, 0, 0);
        Check.due("7 VAIN again", x.told(0, 8), 1);
        Check.due("7 the VOID VOID is not VAIN", x.told(1, 8), 0);
        Check.due("9 VAIN again", x.count(4), 1);
    }

    private static void countsOfPapersWithCasks() {
        WharfPapers x = Check.withLots(10, 10);
        x.line(0, 0, 0, 1, 0, 1);
        Check.due("9 one with one cask", x.count(5), 1);
        Check.due("15 one with one cask", x.goods(0, 0, 0, 5), 1);
        x.line(0, 0, 1, 1, 0, 2);
        Check.due("9 of all LOTS", x.count(5), 2);
        Check.due("15 of that LOT alone", x.goods(0, 0, 0, 5), 1);
        x.line(7, 0, 0, 0, 0, 1);
        Check.due("9 one without casks", x.count(5), 1);
        Check.due("15 one without casks", x.goods(0, 0, 0, 5), 0);
        Check.due("14 it is there", x.paper(0, 0, 0, 0), 0);
        Check.due("9 it is not VAIN", x.count(4), 0);
    }

    private static void countsOfDoubleIssues() {
        WharfPapers x = Check.withLots(10, 10);
        x.line(0, 0, 0, 1, 0, 10);
        Check.due("9 as many as are THERE", x.count(6), 0);
        x.line(0, 0, 0, 1, 0, 1);
        Check.due("9 one more", x.count(6), 1);
        Check.due("7 none the less", x.told(1, 8), 0);
        Check.due("14 it is none the less", x.paper(1, 0, 0, 0), 1);
        x.line(0, 0, 1, 1, 0, 11);
        Check.due("9 by itself", x.count(6), 2);
        x.line(2, 0, 2, 0, 0, 5);
        Check.due("9 a PART is no ISSUE", x.count(6), 2);
        x.line(10, 0, 0, 0, 0, 0);
        Check.due("9 without the first, the second is not", x.count(6), 1);
        x.line(10, 0, 2, 0, 0, 0);
        Check.due("9 a VOID one is not", x.count(6), 0);
        WharfPapers y = Check.withLots(10);
        y.line(0, 0, 0, 1, 0, 10);
        y.line(7, 0, 0, 0, 0, 9);
        y.line(0, 0, 0, 1, 0, 1);
        Check.due("9 one is THERE, two are on WARRANTS", y.count(6), 1);
    }
}
