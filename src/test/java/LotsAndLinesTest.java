/** Promises 1 to 9. */
public final class LotsAndLinesTest {
    private static final int NONE = -1, UNKNOWN = -1001, OUTSIDE = -1002, NOT = -1003, FULL = -1004;

    public static void main(String[] args) {
        newObject();
        go();
        lot();
        room();
        move();
        lineRefusals();
        lineLimits();
        told();
        voidLines();
        book();
        count();
        Check.end();
    }

    private static void newObject() {
        WharfPapers x = new WharfPapers();
        for (int what = 0; what <= 11; what++) {
            Check.due("1 count(" + what + ")", x.count(what), 0);
        }
        Check.due("1 told", x.told(0, 0), UNKNOWN);
        Check.due("1 book", x.book(0, 0), NONE);
        Check.due("1 fault", x.fault(), NONE);
        Check.due("1 goods", x.goods(0, 0, 0, 0), UNKNOWN);
        Check.due("1 plan", x.plan(0, NONE), 0);
        Check.due("1 plan of LOT 0", x.plan(0, 0), UNKNOWN);
        for (int f = 0; f < 6; f++) {
            Check.due("1 room " + f, x.room(f, 200), 200);
        }
        for (int h = 0; h < 8; h++) {
            Check.due("1 coin " + h, x.coin(h, 0), 0);
        }
    }

    private static void go() {
        WharfPapers x = new WharfPapers();
        Check.due("2 go(0)", x.go(0), 0);
        Check.due("2 go(-1)", x.go(-1), OUTSIDE);
        Check.due("2 go(1000)", x.go(1000), OUTSIDE);
        Check.due("2 go(MAX)", x.go(Integer.MAX_VALUE), OUTSIDE);
        Check.due("2 go(MIN)", x.go(Integer.MIN_VALUE), OUTSIDE);
        Check.due("2 go(999)", x.go(999), 999);
        Check.due("2 go(999) again", x.go(999), 1998);
        Check.due("2 go(3)", x.go(3), NOT);
        Check.due("2 NOW", x.count(0), 1998);
        Check.due("2 go(2)", x.go(2), 2000);
        Check.due("2 go(1)", x.go(1), NOT);
        Check.due("2 go(1000) at the end", x.go(1000), OUTSIDE);
        Check.due("2 go(0) at the end", x.go(0), 2000);
    }

    private static void lot() {
        WharfPapers x = new WharfPapers();
        Check.due("3 house", x.lot(0, 1, 1, 8, 0), UNKNOWN);
        Check.due("3 house -1", x.lot(0, 1, 1, -1, 0), UNKNOWN);
        Check.due("3 floor", x.lot(0, 1, 1, 0, 6), UNKNOWN);
        Check.due("3 floor -1, and all else", x.lot(9, 0, 0, 0, -1), UNKNOWN);
        Check.due("3 sort", x.lot(4, 1, 1, 0, 0), OUTSIDE);
        Check.due("3 sort -1", x.lot(-1, 1, 1, 0, 0), OUTSIDE);
        Check.due("3 casks 0", x.lot(0, 0, 1, 0, 0), OUTSIDE);
        Check.due("3 casks 201", x.lot(0, 201, 1, 0, 0), OUTSIDE);
        Check.due("3 weight 0", x.lot(0, 1, 0, 0, 0), OUTSIDE);
        Check.due("3 weight 1000", x.lot(0, 1, 1000, 0, 0), OUTSIDE);
        Check.due("3 none yet", x.count(1), 0);
        for (int l = 0; l < 12; l++) {
            Check.due("3 LOT " + l, x.lot(l % 4, l == 0 ? 200 : 1, l == 0 ? 999 : 1, l % 8, l % 6), l);
        }
        Check.due("3 full", x.lot(0, 1, 1, 0, 0), FULL);
        Check.due("3 full and OUTSIDE", x.lot(0, 0, 1, 0, 0), OUTSIDE);
        Check.due("3 full and UNKNOWN", x.lot(0, 0, 1, 0, 6), UNKNOWN);
        Check.due("3 twelve", x.count(1), 12);
        Check.due("3 THERE", x.goods(0, 0, 0, 0), 200);
        WharfPapers y = new WharfPapers();
        Check.due("3 room", y.room(0, 0), 200);
        Check.due("3 ROOM is not asked", y.lot(0, 200, 1, 0, 0), 0);
    }

    private static void room() {
        WharfPapers x = new WharfPapers();
        Check.due("4 first", x.room(5, 0), 200);
        Check.due("4 then", x.room(5, 999), 0);
        Check.due("4 1000", x.room(5, 1000), OUTSIDE);
        Check.due("4 -1", x.room(5, -1), OUTSIDE);
        Check.due("4 floor 6", x.room(6, -1), UNKNOWN);
        Check.due("4 floor -1", x.room(-1, 5), UNKNOWN);
        Check.due("4 unchanged by refusals", x.room(5, 5), 999);
        Check.due("4 another FLOOR", x.room(4, 5), 200);
    }

    private static void move() {
        WharfPapers x = new WharfPapers();
        Check.due("5 no LOT", x.move(0, 0), UNKNOWN);
        x.lot(0, 1, 1, 0, 3);
        Check.due("5 no FLOOR", x.move(0, 6), UNKNOWN);
        Check.due("5 FLOOR -1", x.move(0, -1), UNKNOWN);
        Check.due("5 LOT -1", x.move(-1, 0), UNKNOWN);
        Check.due("5 there already", x.move(0, 3), NOT);
        Check.due("5 moved", x.move(0, 5), 3);
        Check.due("5 back", x.move(0, 3), 5);
        Check.due("5 still there", x.move(0, 3), NOT);
    }

    private static void lineRefusals() {
        WharfPapers x = new WharfPapers();
        Check.due("6 KIND 11 ahead of all", x.line(11, 9, 9, 9, 9, 999), OUTSIDE);
        Check.due("6 KIND -1 ahead of all", x.line(-1, 0, 9, 9, 9, 0), OUTSIDE);
        Check.due("6 no LOT", x.line(0, 0, 0, 0, 0, 1), UNKNOWN);
        Check.due("6 no LOT, DAY too", x.line(8, 1, 0, 0, 0, 1), UNKNOWN);
        Check.due("6 no LINE", x.line(10, 0, 0, 0, 0, 0), UNKNOWN);
        x.lot(0, 10, 10, 0, 0);
        x.go(3);
        Check.due("6 HOUSE of ISSUE", x.line(0, 0, 0, 8, 0, 1), UNKNOWN);
        Check.due("6 HOUSE before OUTSIDE", x.line(0, 9, 0, -1, 0, 0), UNKNOWN);
        Check.due("6 DAY after NOW", x.line(0, 4, 0, 0, 0, 1), OUTSIDE);
        Check.due("6 DAY -1", x.line(0, -1, 0, 0, 0, 1), OUTSIDE);
        Check.due("6 n 0", x.line(0, 0, 0, 0, 0, 0), OUTSIDE);
        Check.due("6 n 201", x.line(0, 0, 0, 0, 0, 201), OUTSIDE);
        Check.due("6 ISSUE without q", x.line(0, 3, 0, 7, 99, 200), 0);
        Check.due("6 BURNT without p, q", x.line(8, 3, 0, 99, -9, 1), 1);
        Check.due("6 BURNT n", x.line(8, 3, 0, 0, 0, 201), OUTSIDE);
        Check.due("6 a BURNT is no WARRANT", x.line(4, 3, 1, 0, 0, 0), UNKNOWN);
        Check.due("6 no LINE 2", x.line(10, 3, 2, 0, 0, 0), UNKNOWN);
        Check.due("6 LINE -1", x.line(10, 3, -1, 0, 0, 0), UNKNOWN);
        Check.due("6 WARRANT -1", x.line(1, 3, -1, 0, 0, 0), UNKNOWN);
        Check.due("6 PASS p", x.line(1, 3, 0, 8, 0, 0), UNKNOWN);
        Check.due("6 PASS q", x.line(1, 3, 0, 0, 8, 0), UNKNOWN);
        Check.due("6 PASS paid 2", x.line(1, 3, 0, 0, 0, 2), OUTSIDE);
        Check.due("6 PASS paid -1", x.line(1, 3, 0, 0, 0, -1), OUTSIDE);
        Check.due("6 PART 0", x.line(2, 3, 0, 99, 99, 0), OUTSIDE);
        Check.due("6 PART 201", x.line(2, 3, 0, 99, 99, 201), OUTSIDE);
        Check.due("6 LENT p", x.line(3, 3, 0, 8, 0, 1), UNKNOWN);
        Check.due("6 LENT 0", x.line(3, 3, 0, 0, 0, 0), OUTSIDE);
        Check.due("6 LENT 10000", x.line(3, 3, 0, 0, 0, 10000), OUTSIDE);
        Check.due("6 STOP p", x.line(5, 3, 0, 8, 0, 1), UNKNOWN);
        Check.due("6 OUT 0", x.line(7, 3, 0, 0, 0, 0), OUTSIDE);
        Check.due("6 STOLEN p", x.line(9, 3, 0, -1, 0, 0), UNKNOWN);
        Check.due("6 nothing was told", x.count(2), 2);
        Check.due("6 LENT 9999", x.line(3, 3, 0, 0, 99, 9999), 2);
        Check.due("6 REPAID alone", x.line(4, 3, 0, 99, 99, 99999), 3);
        Check.due("6 STOP alone", x.line(5, 3, 0, 0, 99, 99999), 4);
        Check.due("6 FREED alone", x.line(6, 3, 0, 99, 99, 99999), 5);
        Check.due("6 STOLEN alone", x.line(9, 3, 0, 1, 99, 99999), 6);
        Check.due("6 PART alone", x.line(2, 3, 0, 99, 99, 200), 7);
        Check.due("6 a PART is a WARRANT", x.line(7, 3, 7, 99, 99, 200), 8);
        Check.due("6 VOID alone", x.line(10, 3, 8, 99, 99, 99999), 9);
        Check.due("6 VOID of a VOID", x.line(10, 3, 9, 0, 0, 0), 10);
        Check.due("6 VOID of itself", x.line(10, 3, 11, 0, 0, 0), UNKNOWN);
    }

    private static void lineLimits() {
        WharfPapers x = new WharfPapers();
        x.lot(0, 1, 1, 0, 0);
        for (int i = 0; i < 120; i++) {
            Check.due("6 LINE " + i, x.line(0, 0, 0, i % 8, 0, 200), i);
        }
        Check.due("6 full", x.line(0, 0, 0, 0, 0, 1), FULL);
        Check.due("6 full and OUTSIDE", x.line(0, 0, 0, 0, 0, 0), OUTSIDE);
        Check.due("6 full and UNKNOWN", x.line(0, 0, 1, 0, 0, 0), UNKNOWN);
        Check.due("6 120", x.count(2), 120);
        Check.due("6 casks of 120", x.goods(0, 0, 0, 3), 24000);
        Check.due("6 all DOUBLE", x.count(6), 120);
        Check.due("6 the last of THE BOOK", x.book(0, 119), 119);
        Check.due("17 all but none", x.doubt(0, 0, 0, NONE), 120);
        Check.due("17 the last", x.doubt(0, 0, 0, 119), 119);
        Check.due("17 beyond", x.doubt(0, 0, 0, 120), NONE);
        Check.due("16 upper", x.share(119, 0, 0, 0), 1);
        Check.due("16 lower", x.share(119, 0, 0, 1), 120);
    }

    private static void told() {
        WharfPapers x = new WharfPapers();
        x.lot(0, 10, 10, 0, 0);
        x.go(9);
        x.line(0, 4, 0, 5, 6, 7);
        x.go(1);
        x.line(1, 8, 0, 3, 5, 1);
        x.line(4, 10, 0, 3, 5, 1);
        x.line(10, 2, 2, 3, 5, 1);
        int[][] due = {
            {0, 4, 9, 0, 5, NONE, 7, 0, 0},
            {1, 8, 10, 0, 3, 5, 1, 0, 0},
            {4, 10, 10, 0, NONE, NONE, NONE, 1, 0},
            {10, 2, 10, 2, NONE, NONE, NONE, 0, 0}};
        for (int i = 0; i < due.length; i++) {
            for (int what = 0; what <= 8; what++) {
                Check.due("7 told(" + i + ", " + what + ")", x.told(i, what), due[i][what]);
            }
        }
        Check.due("7 VOID the VOID", x.line(10, 10, 3, 0, 0, 0), 4);
        Check.due("7 no more VOID", x.told(2, 7), 0);
        Check.due("7 but VAIN", x.told(2, 8), 1);
        Check.due("7 VOID", x.told(3, 7), 1);
        Check.due("7 what 9", x.told(0, 9), OUTSIDE);
        Check.due("7 what -1", x.told(0, -1), OUTSIDE);
        Check.due("7 no LINE", x.told(5, 9), UNKNOWN);
        Check.due("7 LINE -1", x.told(-1, 0), UNKNOWN);
        int[][] rest = {{2, NONE, NONE, 2}, {3, 1, NONE, 44}, {5, 2, NONE, NONE}, {6, NONE, NONE, NONE},
            {7, NONE, NONE, 2}, {8, NONE, NONE, 2}, {9, 6, NONE, NONE}};
        int[] n = {0, 0, 2, 44, 0, 0, 0, 2, 2, 0};
        for (int[] row : rest) {
            int i = x.line(row[0], 10, 0, row[1] == NONE ? 7 : row[1], 4, n[row[0]]);
            Check.due("7 p of KIND " + row[0], x.told(i, 4), row[1]);
            Check.due("7 q of KIND " + row[0], x.told(i, 5), row[2]);
            Check.due("7 n of KIND " + row[0], x.told(i, 6), row[3]);
        }
    }

    private static void voidLines() {
        WharfPapers x = new WharfPapers();
        x.lot(0, 10, 10, 0, 0);
        x.line(0, 0, 0, 1, 0, 5);
        x.go(1);
        x.line(10, 1, 0, 0, 0, 0);
        x.go(1);
        x.line(10, 2, 1, 0, 0, 0);
        x.go(1);
        x.line(10, 3, 2, 0, 0, 0);
        Check.due("8 known on 0", x.paper(0, 5, 0, 0), 5);
        Check.due("8 VOID on 1", x.paper(0, 5, 1, 0), NOT);
        Check.due("8 VOID is VOID on 2", x.paper(0, 5, 2, 0), 5);
        Check.due("8 that one is VOID on 3", x.paper(0, 5, 3, 0), NOT);
        Check.due("7 0 is VOID", x.told(0, 7), 1);
        Check.due("7 1 is not", x.told(1, 7), 0);
        Check.due("7 2 is VOID", x.told(2, 7), 1);
        Check.due("9 VOID now", x.count(3), 2);
        // the DAY of a VOID says nothing of whether it holds
        x.line(10, 0, 3, 0, 0, 0);
        Check.due("9 VOID now", x.count(3), 2);
        Check.due("7 0 is there again", x.told(0, 7), 0);
    }

    private static void book() {
        WharfPapers x = new WharfPapers();
        x.lot(0, 10, 10, 0, 0);
        x.go(5);
        x.line(0, 5, 0, 0, 0, 1);
        x.line(0, 2, 0, 0, 0, 1);
        x.line(0, 5, 0, 0, 0, 1);
        x.line(0, 0, 0, 0, 0, 1);
        x.go(2);
        x.line(0, 2, 0, 0, 0, 1);
        x.line(10, 4, 2, 0, 0, 0);
        int[] on5 = {3, 1, 0, 2, NONE};
        int[] on7 = {3, 1, 4, 5, 0, NONE};
        for (int i = 0; i < on5.length; i++) {
            Check.due("8 book(5, " + i + ")", x.book(5, i), on5[i]);
            Check.due("8 book(6, " + i + ")", x.book(6, i), on5[i]);
            Check.due("8 book(4, " + i + ")", x.book(4, i), NONE);
        }
        for (int i = 0; i < on7.length; i++) {
            Check.due("8 book(7, " + i + ")", x.book(7, i), on7[i]);
        }
        Check.due("8 -1", x.book(7, -1), NONE);
        Check.due("8 MAX", x.book(7, Integer.MAX_VALUE), NONE);
        Check.due("8 after NOW", x.book(8, 0), OUTSIDE);
        Check.due("8 DAY -1", x.book(-1, 0), OUTSIDE);
    }

    private static void count() {
        WharfPapers x = new WharfPapers();
        x.go(4);
        x.lot(0, 10, 10, 0, 0);
        x.lot(1, 10, 10, 0, 0);
        x.line(0, 4, 0, 1, 0, 8);
        x.line(0, 4, 0, 1, 0, 3);
        x.line(0, 4, 1, 1, 0, 10);
        x.line(4, 4, 0, 0, 0, 0);
        x.line(7, 4, 1, 0, 0, 3);
        x.line(10, 4, 3, 0, 0, 0);
        Check.term(x, "let rent 1;", 0);
        x.sale(0, 1, 0, 1);
        x.due(0, 1, 1);
        x.due(0, 1, 1);
        x.feed(3, 0);
        x.weigh(0, 1, 1);
        int[] due = {4, 2, 6, 1, 0, 2, 1, 1, 1, 2, 3, 1};
        for (int what = 0; what < due.length; what++) {
            Check.due("9 count(" + what + ")", x.count(what), due[what]);
        }
        x.line(10, 4, 5, 0, 0, 0);
        Check.due("9 VAIN, since no more VOID", x.count(4), 1);
        Check.due("9 what 12", x.count(12), OUTSIDE);
        Check.due("9 what -1", x.count(-1), OUTSIDE);
        // casks that are burnt first make a later ISSUE DOUBLE, those OUT too
        WharfPapers y = new WharfPapers();
        y.lot(0, 10, 10, 0, 0);
        y.go(5);
        y.line(0, 5, 0, 1, 0, 10);
        Check.due("9 not DOUBLE", y.count(6), 0);
        y.line(8, 5, 0, 0, 0, 1);
        Check.due("9 not DOUBLE by what burnt later", y.count(6), 0);
        y.line(8, 4, 0, 0, 0, 1);
        Check.due("9 DOUBLE by what burnt before", y.count(6), 1);
    }
}
