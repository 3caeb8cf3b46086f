/** Promises 32 and 33. */
public final class FloorsTest {
    private static final int NONE = -1, UNKNOWN = -1001, OUTSIDE = -1002, NOT = -1003;

    public static void main(String[] args) {
        part();
        planRefusals();
        planStays();
        planMoves();
        planFirst();
        planParted();
        planUnlaid();
        planOfMany();
        planOfWhatIsThere();
        Check.end();
    }

    private static void part() {
        WharfPapers x = new WharfPapers();
        Check.due("32 alike", x.part(2, 2, true), OUTSIDE);
        Check.due("32 -1", x.part(-1, 2, true), OUTSIDE);
        Check.due("32 4", x.part(0, 4, false), OUTSIDE);
        Check.due("32 both", x.part(7, 7, false), OUTSIDE);
        Check.due("32 not", x.part(0, 3, false), 0);
        Check.due("32 parted", x.part(0, 3, true), 0);
        Check.due("32 again", x.part(3, 0, true), 1);
        Check.due("32 others are not", x.part(1, 3, false), 0);
        Check.due("32 no more", x.part(3, 0, false), 1);
        Check.due("32 no more", x.part(0, 3, false), 0);
    }

    private static void isPlan(String what, WharfPapers x, int set, int... due) {
        Check.due("33 " + what + ": casks", x.plan(set, NONE), due[0]);
        for (int l = 1; l < due.length; l++) {
            Check.due("33 " + what + ": LOT " + (l - 1), x.plan(set, l - 1), due[l]);
        }
    }

    private static void planRefusals() {
        WharfPapers x = new WharfPapers();
        for (int l = 0; l < 9; l++) {
            x.lot(0, 1, 1, 0, 0);
        }
        Check.due("33 LOT 9", x.plan(1 << 9, NONE), UNKNOWN);
        Check.due("33 a negative SET", x.plan(-1, NONE), UNKNOWN);
        Check.due("33 bit 31", x.plan(Integer.MIN_VALUE, NONE), UNKNOWN);
        Check.due("33 LOT i", x.plan(1, 9), UNKNOWN);
        Check.due("33 LOT -2", x.plan(1, -2), UNKNOWN);
        Check.due("33 nine LOTS", x.plan(511, NONE), OUTSIDE);
        Check.due("33 nine LOTS, LOT 9", x.plan(511, 9), UNKNOWN);
        Check.due("33 eight LOTS", x.plan(255, NONE), 0);
        Check.due("33 not of the SET", x.plan(255, 8), NONE);
        x.room(0, 0);
        Check.due("33 they move", x.plan(1, NONE), 1);
        for (int f = 1; f < 6; f++) {
            x.room(f, 0);
        }
        Check.due("33 no ROOM", x.plan(1, NONE), NOT);
        Check.due("33 no ROOM for that LOT", x.plan(1, 0), NOT);
        Check.due("33 no ROOM for others", x.plan(1, 5), NOT);
        Check.due("33 none are LAID", x.plan(0, NONE), 0);
        Check.due("33 none are LAID", x.plan(0, 5), NONE);
    }

    private static void planStays() {
        WharfPapers x = new WharfPapers();
        x.lot(0, 100, 1, 0, 5);
        x.lot(1, 100, 1, 0, 5);
        isPlan("just room", x, 3, 0, 5, 5);
        x.room(5, 199);
        isPlan("one too many", x, 3, 100, 0, 5);
        isPlan("the other stays and counts", x, 2, 100, NONE, 0);
    }

    private static void planMoves() {
        WharfPapers x = new WharfPapers();
        x.lot(0, 30, 1, 0, 1);
        x.lot(0, 50, 1, 0, 1);
        x.lot(0, 20, 1, 0, 1);
        x.room(1, 70);
        isPlan("30 rather than 50, 20 + 30", x, 7, 30, 0, 1, 1);
        x.room(1, 50);
        isPlan("either 50 or 30 + 20: the first", x, 7, 50, 0, 1, 0);
        x.room(0, 10);
        isPlan("FLOOR 0 has no room", x, 7, 50, 1, 2, 1);
    }

    private static void planFirst() {
        WharfPapers x = new WharfPapers();
        x.lot(0, 10, 1, 0, 3);
        x.lot(0, 10, 1, 0, 3);
        x.room(3, 10);
        isPlan("the first LOT has the lesser FLOOR", x, 3, 10, 0, 3);
        x.room(0, 0);
        x.room(1, 0);
        x.room(2, 0);
        isPlan("of the FLOORS behind it", x, 3, 10, 3, 4);
    }

    private static void planParted() {
        WharfPapers x = new WharfPapers();
        x.lot(0, 10, 1, 0, 2);
        x.lot(1, 20, 1, 0, 2);
        x.lot(2, 30, 1, 0, 0);
        isPlan("together", x, 3, 0, 2, 2);
        x.part(0, 1, true);
        isPlan("apart", x, 3, 10, 0, 2);
        isPlan("from one that is not LAID", x, 2, 20, NONE, 0);
        x.part(2, 0, true);
        isPlan("from another that is not LAID", x, 3, 10, 1, 2);
        x.move(2, 2);
        isPlan("those not LAID may be with one another", x, 1, 10, 0);
        isPlan("one is LAID to where it may not be", x, 2, 20, NONE, 0);
        isPlan("three", x, 7, 10, 0, 2, 2);
        x.part(1, 2, true);
        isPlan("three apart", x, 7, 30, 0, 1, 2);
    }

    private static void planUnlaid() {
        WharfPapers x = new WharfPapers();
        x.lot(0, 150, 1, 0, 0);
        x.lot(0, 150, 1, 0, 0);
        x.lot(0, 50, 1, 0, 1);
        isPlan("FLOOR 0 has too many, but is not looked at", x, 4, 0, NONE, NONE, 1);
        isPlan("nor when it is left", x, 1, 150, 1, NONE);
        x.room(0, 0);
        isPlan("none is LAID there", x, 4, 0, NONE, NONE, 1);
    }

    private static void planOfMany() {
        WharfPapers x = new WharfPapers();
        for (int l = 0; l < 12; l++) {
            x.lot(l % 4, 100, 1, 0, 0);
        }
        x.room(0, 600);
        // four that are not LAID have 400: two stay, six go to FLOORS 1, 2, 3 by twos
        isPlan("eight", x, 255, 600, 0, 0, 1, 1, 2, 2, 3, 3, NONE);
        x.room(0, 200);
        isPlan("none may stay", x, 255, 800, 1, 1, 2, 2, 3, 3, 4, 4);
        isPlan("the upper eight", x, 255 << 4, 800, NONE, NONE, NONE, NONE, 1, 1, 2, 2, 3, 3, 4, 4);
        x.room(5, 0);
        isPlan("eight on four FLOORS", x, 255, 800, 1, 1, 2, 2, 3, 3, 4, 4);
        x.room(4, 199);
        Check.due("33 no place for the eighth", x.plan(255, NONE), NOT);
    }

    private static void planOfWhatIsThere() {
        WharfPapers x = new WharfPapers();
        x.lot(0, 100, 1, 0, 2);
        x.lot(1, 100, 1, 0, 2);
        x.room(2, 150);
        isPlan("too many", x, 3, 100, 0, 2);
        x.line(0, 0, 0, 1, 0, 100);
        x.line(7, 0, 0, 0, 0, 30);
        isPlan("the one with fewer casks moves", x, 3, 70, 0, 2);
        x.line(8, 0, 1, 0, 0, 20);
        isPlan("just room", x, 3, 0, 2, 2);
        x.line(7, 0, 0, 0, 0, 70);
        isPlan("an empty LOT moves for nothing", x, 3, 0, 0, 2);
        x.part(0, 1, true);
        x.lot(1, 1, 1, 0, 0);
        isPlan("an empty LOT is still PARTED", x, 3, 0, 1, 2);
    }
}
