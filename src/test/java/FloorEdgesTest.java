/** Promises 32 and 33 and the last of part 5 of the terms: the edges that the sentences name, one by one. */
public final class FloorEdgesTest {
    private static final int NONE = -1, UNKNOWN = -1001, OUTSIDE = -1002, NOT = -1003;

    public static void main(String[] args) {
        partedIsOfEachTwo();
        emptySets();
        setsOfLotsThatThereAre();
        eightAtMost();
        roomToTheLastCask();
        theMostCasks();
        theFewestCasks();
        theFirstOfSeveral();
        casksThereToday();
        notLaidCounts();
        notLookedAt();
        partedFromThoseLaid();
        partedFromThoseNotLaid();
        emptyLots();
        planChangesNothing();
        Check.end();
    }

    private static WharfPapers withLots(int floor, int... casks) {
        WharfPapers x = new WharfPapers();
        for (int n : casks) {
            x.lot(0, n, 10, 0, floor);
        }
        return x;
    }

    private static void rooms(WharfPapers x, int... rooms) {
        for (int f = 0; f < 6; f++) {
            x.room(f, rooms[f]);
        }
    }

    private static void isPlan(String what, WharfPapers x, int set, int moved, int... floors) {
        Check.due("33 " + what + ": casks", x.plan(set, NONE), moved);
        for (int l = 0; l < floors.length; l++) {
            Check.due("33 " + what + ": LOT " + l, x.plan(set, l), floors[l]);
        }
    }

    private static void isNoPlan(String what, WharfPapers x, int set) {
        Check.due("33 " + what, x.plan(set, NONE), NOT);
        for (int l = 0; l < x.count(1); l++) {
            Check.due("33 " + what + ": LOT " + l, x.plan(set, l), NOT);
        }
    }

    private static void partedIsOfEachTwo() {
        for (int s = 0; s < 4; s++) {
            for (int t = 0; t < 4; t++) {
                WharfPapers x = new WharfPapers();
                boolean isAlike = s == t;
                Check.due("32 first", x.part(s, t, true), isAlike ? OUTSIDE : 0);
                Check.due("32 again", x.part(s, t, true), isAlike ? OUTSIDE : 1);
                for (int a = 0; a < 4; a++) {
                    for (int b = 0; b < 4; b++) {
                        boolean isThat = !isAlike && (a == s && b == t || a == t && b == s);
                        if (a != b) {
                            Check.due("32 of each two", x.part(a, b, isThat), isThat ? 1 : 0);
                        }
                    }
                }
                Check.due("32 no more", x.part(t, s, false), isAlike ? OUTSIDE : 1);
                Check.due("32 no more", x.part(s, t, false), isAlike ? OUTSIDE : 0);
                Check.due("32 and again", x.part(t, s, true), isAlike ? OUTSIDE : 0);
            }
        }
    }

    private static void emptySets() {
        WharfPapers x = new WharfPapers();
        Check.due("33 no LOTS", x.plan(0, NONE), 0);
        Check.due("33 no LOT 0", x.plan(0, 0), UNKNOWN);
        x.lot(0, 200, 1, 0, 0);
        rooms(x, 0, 0, 0, 0, 0, 0);
        Check.due("33 none is LAID", x.plan(0, NONE), 0);
        Check.due("33 it is not of the SET", x.plan(0, 0), NONE);
        isNoPlan("there is none", x, 1);
    }

    private static void setsOfLotsThatThereAre() {
        WharfPapers x = new WharfPapers();
        for (int l = 0; l < 12; l++) {
            for (int bit = 0; bit < 32; bit++) {
                Check.due("33 " + l + " LOTS, bit " + bit, x.plan(1 << bit, NONE), bit < l ? 0 : UNKNOWN);
            }
            Check.due("33 LOT " + l + " is not there", x.plan(0, l), UNKNOWN);
            x.lot(0, 1, 1, 0, 3);
            Check.due("33 LOT " + l + " is", x.plan(1 << l, l), 3);
        }
        WharfPapers y = withLots(0, 1, 1, 1, 1, 1, 1, 1, 1, 1, 1, 1, 1);
        for (int bit = 12; bit < 32; bit++) {
            Check.due("33 12 LOTS, bit " + bit, y.plan(1 << bit | 1, NONE), UNKNOWN);
        }
        Check.due("33 LOT 12", y.plan(1, 12), UNKNOWN);
        Check.due("33 LOT 11", y.plan(1, 11), NONE);
    }

    private static void eightAtMost() {
        WharfPapers x = withLots(2, 1, 1, 1, 1, 1, 1, 1, 1, 1, 1, 1, 1);
        Check.due("33 the lower eight", x.plan(0x0FF, NONE), 0);
        Check.due("33 the upper eight", x.plan(0xFF0, NONE), 0);
        Check.due("33 eight of all", x.plan(0xDB6, NONE), 0);
        Check.due("33 the lower nine", x.plan(0x1FF, NONE), OUTSIDE);
        Check.due("33 the upper nine", x.plan(0xFF8, NONE), OUTSIDE);
        Check.due("33 all twelve", x.plan(0xFFF, 0), OUTSIDE);
        Check.due("33 nine and one that there is not", x.plan(0x1FF | 0x1000, NONE), UNKNOWN);
        Check.due("33 nine, LOT 12", x.plan(0x1FF, 12), UNKNOWN);
        rooms(x, 0, 0, 0, 0, 0, 0);
        Check.due("33 OUTSIDE ahead of NOT", x.plan(0x1FF, NONE), OUTSIDE);
        Check.due("33 eight, NOT", x.plan(0x0FF, NONE), NOT);
    }

    private static void roomToTheLastCask() {
        WharfPapers x = withLots(4, 100, 50, 50);
        rooms(x, 0, 0, 0, 0, 200, 0);
        isPlan("just ROOM", x, 7, 0, 4, 4, 4);
        x.room(4, 199);
        isNoPlan("one too few", x, 7);
        x.room(5, 49);
        isNoPlan("one too few elsewhere", x, 7);
        x.room(5, 50);
        isPlan("just ROOM elsewhere", x, 7, 50, 4, 4, 5);
        x.room(4, 149);
        isNoPlan("150 are one too many", x, 7);
        x.room(5, 100);
        isPlan("100 and 100", x, 7, 100, 4, 5, 5);
    }

    private static void theMostCasks() {
        WharfPapers x = withLots(0, 200, 200, 200, 200, 200, 200, 200, 200);
        rooms(x, 0, 999, 999, 999, 999, 999);
        isPlan("all move", x, 255, 1600, 1, 1, 1, 1, 2, 2, 2, 2);
        rooms(x, 200, 200, 400, 400, 200, 200);
        isPlan("all FLOORS", x, 255, 1400, 0, 1, 2, 2, 3, 3, 4, 5);
        x.room(5, 199);
        isNoPlan("one cask too few", x, 255);
        rooms(x, 999, 0, 0, 0, 0, 800);
        isPlan("four may stay", x, 255, 800, 0, 0, 0, 0, 5, 5, 5, 5);
        x.room(5, 799);
        isNoPlan("three may go", x, 255);
    }

    private static void theFewestCasks() {
        WharfPapers x = withLots(1, 60, 70, 80);
        rooms(x, 200, 150, 200, 200, 200, 200);
        isPlan("60 go", x, 7, 60, 0, 1, 1);
        x.room(1, 149);
        isPlan("70 go", x, 7, 70, 1, 0, 1);
        x.room(1, 139);
        isPlan("80 go", x, 7, 80, 1, 1, 0);
        x.room(1, 129);
        isPlan("130 go", x, 7, 130, 0, 0, 1);
        x.room(1, 79);
        isPlan("140 go", x, 7, 140, 0, 1, 0);
        x.room(1, 69);
        isPlan("150 go", x, 7, 150, 1, 0, 0);
        x.room(1, 59);
        isPlan("all go: 210 are too many for one FLOOR", x, 7, 210, 0, 0, 2);
        // a LOT makes way for another one
        WharfPapers y = withLots(0, 10, 90);
        y.move(1, 1);
        rooms(y, 5, 90, 10, 0, 0, 0);
        isPlan("the one that must go takes what is free", y, 3, 10, 2, 1);
        rooms(y, 95, 10, 0, 0, 0, 0);
        isPlan("both change", y, 3, 100, 1, 0);
    }

    private static void theFirstOfSeveral() {
        WharfPapers x = withLots(5, 10, 10, 10);
        rooms(x, 10, 10, 10, 10, 10, 10);
        isPlan("the first has the least FLOOR, the last stays", x, 7, 20, 0, 1, 5);
        isPlan("of two", x, 6, 10 + 10, NONE, 0, 1);
        rooms(x, 10, 0, 0, 0, 10, 10);
        isPlan("0, 4, 5", x, 7, 20, 0, 4, 5);
        rooms(x, 9, 0, 0, 0, 20, 10);
        isPlan("4, 4, 5", x, 7, 20, 4, 4, 5);
        rooms(x, 0, 0, 0, 0, 0, 30);
        isPlan("the fewest casks come first", x, 7, 0, 5, 5, 5);
        rooms(x, 30, 0, 0, 0, 0, 20);
        isPlan("of like ones the first goes to the lesser", x, 7, 10, 0, 5, 5);
        WharfPapers y = withLots(0, 10, 10, 10);
        rooms(y, 20, 30, 0, 0, 0, 0);
        isPlan("of like ones the last goes to the greater", y, 7, 10, 0, 0, 1);
    }

    private static void casksThereToday() {
        WharfPapers x = withLots(0, 100, 100);
        rooms(x, 150, 200, 0, 0, 0, 0);
        isPlan("100 go", x, 3, 100, 0, 1);
        x.go(5);
        x.line(8, 5, 0, 0, 0, 49);
        isPlan("51 go", x, 3, 51, 1, 0);
        x.line(8, 0, 0, 0, 0, 1);
        isPlan("just ROOM", x, 3, 0, 0, 0);
        x.line(10, 5, 0, 0, 0, 0);
        isPlan("AS KNOWN now", x, 3, 99, 1, 0);
    }

    private static void notLaidCounts() {
        WharfPapers x = withLots(2, 50, 60, 70);
        rooms(x, 0, 0, 130, 0, 0, 60);
        isPlan("those that stay leave no ROOM", x, 2, 60, NONE, 5, NONE);
        x.room(2, 180);
        isPlan("just ROOM", x, 2, 0, NONE, 2, NONE);
        x.room(2, 179);
        isPlan("one too few", x, 2, 60, NONE, 5, NONE);
        x.room(5, 59);
        isNoPlan("one too few there too", x, 2);
        x.move(0, 5);
        x.room(5, 110);
        isPlan("two stay in two places", x, 2, 0, NONE, 2, NONE);
        x.room(2, 129);
        isPlan("just ROOM with the other", x, 2, 60, NONE, 5, NONE);
        x.room(5, 109);
        isNoPlan("one too few with the other", x, 2);
    }

    private static void notLookedAt() {
        WharfPapers x = withLots(0, 200, 200, 10);
        x.move(2, 1);
        rooms(x, 0, 10, 0, 0, 0, 0);
        isPlan("FLOOR 0 has too many, none is LAID to it", x, 4, 0, NONE, NONE, 1);
        x.room(1, 9);
        isNoPlan("FLOOR 0 has no ROOM for one that is", x, 4);
        x.room(0, 409);
        isNoPlan("one too few", x, 4);
        x.room(0, 410);
        isPlan("just ROOM", x, 4, 10, NONE, NONE, 0);
        x.lot(1, 10, 1, 0, 5);
        x.lot(2, 10, 1, 0, 5);
        x.part(1, 2, true);
        isPlan("those that are not LAID may be with any", x, 4, 10, NONE, NONE, 0, NONE, NONE);
    }

    private static void partedFromThoseLaid() {
        WharfPapers x = new WharfPapers();
        for (int s = 0; s < 4; s++) {
            x.lot(s, 10 + s, 1, 0, 0);
        }
        isPlan("none PARTED", x, 15, 0, 0, 0, 0, 0);
        for (int s = 0; s < 4; s++) {
            for (int t = 0; t < s; t++) {
                x.part(s, t, true);
                int[] due = {0, 0, 0, 0};
                due[t] = 1;
                isPlan("the lighter goes: " + t + " from " + s, x, 15, 10 + t, due);
                x.part(t, s, false);
            }
        }
        for (int s = 0; s < 4; s++) {
            for (int t = 0; t < s; t++) {
                x.part(s, t, true);
            }
        }
        isPlan("all from all", x, 15, 33, 1, 2, 3, 0);
        rooms(x, 200, 200, 200, 0, 0, 0);
        isNoPlan("four on three FLOORS", x, 15);
        WharfPapers y = withLots(0, 5, 5);
        y.part(0, 1, true);
        isPlan("no SORT is PARTED from itself", y, 3, 0, 0, 0);
    }

    private static void partedFromThoseNotLaid() {
        WharfPapers x = new WharfPapers();
        for (int f = 0; f < 6; f++) {
            x.lot(1, 1, 1, 0, f);
        }
        x.lot(0, 10, 1, 0, 3);
        isPlan("with them", x, 64, 0, NONE, NONE, NONE, NONE, NONE, NONE, 3);
        x.part(1, 0, true);
        isNoPlan("they are on all FLOORS", x, 64);
        isPlan("one of them goes", x, 64 | 8, 1, NONE, NONE, NONE, 0, NONE, NONE, 3);
        x.move(4, 5);
        isPlan("FLOOR 4 is free", x, 64, 10, NONE, NONE, NONE, NONE, NONE, NONE, 4);
        x.lot(2, 1, 1, 0, 3);
        isPlan("another one behind them is not PARTED", x, 64, 10, NONE, NONE, NONE, NONE, NONE, NONE, 4, NONE);
        x.part(0, 1, false);
        isPlan("PARTED no more", x, 64, 0, NONE, NONE, NONE, NONE, NONE, NONE, 3);
    }

    private static void emptyLots() {
        WharfPapers x = withLots(3, 10, 20);
        x.line(8, 0, 0, 0, 0, 10);
        isPlan("one without casks goes for nothing", x, 3, 0, 0, 3);
        rooms(x, 0, 0, 0, 20, 0, 0);
        isPlan("where there is no ROOM too", x, 3, 0, 0, 3);
        x.lot(0, 1, 1, 0, 0);
        isPlan("but not where too many are", x, 3, 0, 1, 3);
    }

    private static void planChangesNothing() {
        WharfPapers x = withLots(0, 10, 10);
        rooms(x, 0, 200, 0, 0, 0, 0);
        for (int k = 0; k < 2; k++) {
            isPlan("asked again", x, 3, 20, 1, 1);
            isPlan("for one alone", x, 1, 10, 1, NONE);
            isPlan("for the other", x, 2, 10, NONE, 1);
        }
        Check.due("5 they are where they were", x.move(0, 1), 0);
        isPlan("one is there", x, 3, 10, 1, 1);
    }
}
