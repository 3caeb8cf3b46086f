import java.util.ArrayList;
import java.util.List;

/** Promises 14 to 19 and part 3 of the terms: the edges that the sentences name, one by one. */
public final class StoryEdgesTest {
    private static final int NONE = -1, NOT = -1003;
    private static final int ISSUE = 0, PASS = 1, PART = 2, LENT = 3, REPAID = 4, STOP = 5, FREED = 6, OUT = 7, BURNT = 8, STOLEN = 9, VOID = 10;

    public static void main(String[] args) {
        upToADayWithIt();
        newPapers();
        passesOfWhoHolds();
        passesWithAndWithoutTitle();
        passesOfStopped();
        partsOfMoreThanA();
        partsOfBound();
        lendings();
        repayments();
        stopsAndFrees();
        outOfEnoughCasks();
        outOfEnoughThere();
        outOfBound();
        burntOfThere();
        stolen();
        aboutPapersThatAreNotThere();
        aboutPapersOfVainParts();
        termsOfTheDayItWasDone();
        shareOfEnough();
        shareOfTooFew();
        over();
        doubtOfNone();
        doubtOfTheFewest();
        doubtOfTheFirst();
        doubtOfOneLot();
        doubtOnADayAsKnown();
        papersOfTheLastLot();
        stockOfHouses();
        news();
        newsOnADay();
        askedOf120Papers();
        whatWasAskedBefore();
        papersThatAreVoidNow();
        Check.end();
    }

    /** A LOT of 10 casks and a WARRANT for 6 of HOUSE 1. */
    private static WharfPapers withPaper() {
        WharfPapers x = Check.withLots(10);
        done("an ISSUE", x, ISSUE, 0, 1, 0, 6);
        return x;
    }

    private static int done(String what, WharfPapers x, int kind, int target, int p, int q, int n) {
        int i = x.line(kind, x.count(0), target, p, q, n);
        Check.due("7 " + what + " is done", x.told(i, 8), 0);
        return i;
    }

    private static int vain(String what, WharfPapers x, int kind, int target, int p, int q, int n) {
        List<Integer> before = sight(x, x.count(2));
        int had = x.count(4);
        int lines = x.count(2);
        int i = x.line(kind, x.count(0), target, p, q, n);
        Check.due("7 " + what + " is VAIN", x.told(i, 8), 1);
        Check.due("9 " + what + " is VAIN", x.count(4), had + 1);
        Check.holds(what + " changes nothing", before.equals(sight(x, lines)));
        return i;
    }

    private static List<Integer> sight(WharfPapers x, int lines) {
        int now = x.count(0);
        List<Integer> all = new ArrayList<>();
        for (int w = 0; w < lines; w++) {
            int kind = x.told(w, 0);
            for (int what = 0; what < 7 && (kind == ISSUE || kind == PART); what++) {
                all.add(x.paper(w, now, now, what));
            }
        }
        for (int what = 0; what < 6; what++) {
            all.add(x.goods(0, now, now, what));
        }
        all.add(x.count(6));
        return all;
    }

    private static void isPaper(String what, WharfPapers x, int w, int... due) {
        int now = x.count(0);
        for (int k = 0; k < due.length; k++) {
            Check.due("14 " + what + ": paper(" + w + ", .., " + k + ")", x.paper(w, now, now, k), due[k]);
        }
    }

    private static void upToADayWithIt() {
        WharfPapers x = Check.withLots(10);
        x.go(9);
        x.line(ISSUE, 3, 0, 1, 0, 6);
        x.line(PASS, 5, 0, 2, 1, 1);
        x.line(BURNT, 7, 0, 0, 0, 1);
        for (int day = 0; day <= 9; day++) {
            Check.due("14 issued on 3: on " + day, x.paper(0, day, 9, 0), day < 3 ? NOT : 6);
            Check.due("14 passed on 5: on " + day, x.paper(0, day, 9, 1), day < 3 ? NOT : day < 5 ? 1 : 2);
            Check.due("15 burnt on 7: on " + day, x.goods(0, day, 9, 0), day < 7 ? 10 : 9);
        }
        Check.due("14 on the last DAY", x.paper(0, 2000, 9, 1), 2);
        Check.due("15 on the last DAY", x.goods(0, 2000, 9, 2), 1);
    }

    private static void newPapers() {
        for (int h = 0; h < 8; h++) {
            WharfPapers x = Check.withLots(200, 1);
            done("an ISSUE", x, ISSUE, 0, h, 0, 200);
            isPaper("of the most casks", x, 0, 200, h, h, NONE, 0, NONE, 0);
            done("an ISSUE", x, ISSUE, 1, h, 0, 1);
            isPaper("of the fewest", x, 1, 1, h, h, NONE, 0, NONE, 1);
        }
    }

    private static void passesOfWhoHolds() {
        for (int q = 0; q < 8; q++) {
            WharfPapers x = withPaper();
            if (q == 1) {
                done("a PASS of who HOLDS it", x, PASS, 0, 5, q, 0);
                isPaper("passed", x, 0, 6, 5, 5, NONE, 0, NONE, 0);
            } else {
                vain("a PASS of who does not HOLD it", x, PASS, 0, 5, q, 1);
            }
        }
        WharfPapers x = withPaper();
        done("STOLEN", x, STOLEN, 0, 2, 0, 0);
        vain("a PASS of who has the TITLE alone", x, PASS, 0, 5, 1, 1);
        done("a PASS to itself", x, PASS, 0, 2, 2, 0);
        isPaper("to itself, unpaid", x, 0, 6, 2, 1);
        done("a PASS to itself", x, PASS, 0, 2, 2, 1);
        isPaper("to itself, paid", x, 0, 6, 2, 2);
    }

    private static void passesWithAndWithoutTitle() {
        for (int mix = 0; mix < 8; mix++) {
            boolean hasTitle = (mix & 1) == 1;
            int paid = mix >> 1 & 1;
            int rule = mix >> 2;
            WharfPapers x = withPaper();
            Check.term(x, "let title " + rule + ";", 0);
            if (!hasTitle) {
                done("STOLEN", x, STOLEN, 0, 2, 0, 0);
            }
            done("a PASS", x, PASS, 0, 3, hasTitle ? 1 : 2, paid);
            int due = hasTitle || (paid == 1 && rule == 1) ? 3 : 1;
            isPaper("TITLE " + hasTitle + ", paid " + paid + ", title " + rule, x, 0, 6, 3, due, NONE, 0, NONE, 0);
        }
        // back to who has the TITLE: it stays there, by whatever way
        for (int paid = 0; paid <= 1; paid++) {
            WharfPapers x = withPaper();
            done("STOLEN", x, STOLEN, 0, 2, 0, 0);
            done("a PASS back", x, PASS, 0, 1, 2, paid);
            isPaper("back, paid " + paid, x, 0, 6, 1, 1);
        }
    }

    private static void passesOfStopped() {
        for (int mix = 0; mix < 8; mix++) {
            boolean isStopped = (mix & 1) == 1;
            int paid = mix >> 1 & 1;
            int rule = mix >> 2;
            WharfPapers x = withPaper();
            Check.term(x, "let stop " + rule + ";", 0);
            if (isStopped) {
                done("STOP", x, STOP, 0, 7, 0, 0);
            }
            String what = "STOPPED " + isStopped + ", paid " + paid + ", stop " + rule;
            if (isStopped && rule == 1) {
                vain(what, x, PASS, 0, 3, 1, paid);
                isPaper(what, x, 0, 6, 1, 1, NONE, 0, 7, 0);
            } else {
                done(what, x, PASS, 0, 3, 1, paid);
                isPaper(what, x, 0, 6, 3, 3, NONE, 0, isStopped && paid == 0 ? 7 : NONE, 0);
            }
        }
    }

    private static void partsOfMoreThanA() {
        WharfPapers x = withPaper();
        vain("a PART of more than all", x, PART, 0, 0, 0, 7);
        int all = vain("a PART of all", x, PART, 0, 0, 0, 6);
        Check.due("14 it is not there", x.paper(all, 0, 0, 0), NOT);
        int five = done("a PART of all but one", x, PART, 0, 0, 0, 5);
        isPaper("one is left", x, 0, 1, 1, 1);
        isPaper("five", x, five, 5, 1, 1, NONE, 0, NONE, 0);
        vain("a PART of one of one", x, PART, 0, 0, 0, 1);
        done("all OUT", x, OUT, 0, 0, 0, 1);
        vain("a PART of none", x, PART, 0, 0, 0, 1);
        Check.due("15 casks on WARRANTS", x.goods(0, 0, 0, 3), 5);
    }

    private static void partsOfBound() {
        WharfPapers x = withPaper();
        done("LENT", x, LENT, 0, 4, 0, 9);
        vain("a PART of one LENT on", x, PART, 0, 0, 0, 1);
        done("REPAID", x, REPAID, 0, 0, 0, 0);
        done("STOP", x, STOP, 0, 4, 0, 0);
        vain("a PART of one STOPPED", x, PART, 0, 0, 0, 1);
        done("FREED", x, FREED, 0, 0, 0, 0);
        done("STOLEN", x, STOLEN, 0, 3, 0, 0);
        int part = done("a PART", x, PART, 0, 0, 0, 1);
        isPaper("HELD and with its TITLE as the other", x, part, 1, 3, 1, NONE, 0, NONE, 0);
        done("a PASS of the one", x, PASS, part, 5, 3, 1);
        isPaper("the other stays", x, 0, 5, 3, 1);
        done("STOP of the other", x, STOP, 0, 4, 0, 0);
        isPaper("the one is free", x, part, 1, 5, 5, NONE, 0, NONE, 0);
    }

    private static void lendings() {
        for (int sum : new int[] {1, 9999}) {
            WharfPapers x = withPaper();
            done("LENT", x, LENT, 0, 0, 0, sum);
            isPaper("LENT on by HOUSE 0", x, 0, 6, 1, 1, 0, sum, NONE);
            vain("LENT by another", x, LENT, 0, 4, 0, 5);
            vain("LENT by the same", x, LENT, 0, 0, 0, 5);
        }
        WharfPapers x = withPaper();
        done("STOLEN", x, STOLEN, 0, 2, 0, 0);
        vain("LENT without the TITLE", x, LENT, 0, 4, 0, 5);
        done("STOP", x, STOP, 0, 4, 0, 0);
        done("a PASS back", x, PASS, 0, 1, 2, 0);
        done("LENT though STOPPED", x, LENT, 0, 1, 0, 5);
        isPaper("by who HOLDS it", x, 0, 6, 1, 1, 1, 5, 4);
        done("REPAID", x, REPAID, 0, 0, 0, 0);
        done("FREED", x, FREED, 0, 0, 0, 0);
        done("all OUT", x, OUT, 0, 0, 0, 6);
        done("LENT on one without casks", x, LENT, 0, 4, 0, 8);
        isPaper("without casks", x, 0, 0, 1, 1, 4, 8, NONE);
    }

    private static void repayments() {
        WharfPapers x = withPaper();
        vain("REPAID of what is not LENT on", x, REPAID, 0, 0, 0, 0);
        done("LENT", x, LENT, 0, 4, 0, 9);
        done("REPAID", x, REPAID, 0, 0, 0, 0);
        isPaper("REPAID", x, 0, 6, 1, 1, NONE, 0, NONE);
        vain("REPAID again", x, REPAID, 0, 0, 0, 0);
        done("LENT again", x, LENT, 0, 5, 0, 10);
        isPaper("LENT again", x, 0, 6, 1, 1, 5, 10, NONE);
        done("STOLEN", x, STOLEN, 0, 2, 0, 0);
        isPaper("it stays LENT on", x, 0, 6, 2, 1, 5, 10, NONE);
        done("REPAID in other hands", x, REPAID, 0, 0, 0, 0);
    }

    private static void stopsAndFrees() {
        WharfPapers x = withPaper();
        vain("FREED of what is not STOPPED", x, FREED, 0, 0, 0, 0);
        done("STOP", x, STOP, 0, 0, 0, 0);
        isPaper("STOPPED by HOUSE 0", x, 0, 6, 1, 1, NONE, 0, 0);
        vain("STOP by another", x, STOP, 0, 3, 0, 0);
        vain("STOP by the same", x, STOP, 0, 0, 0, 0);
        done("FREED", x, FREED, 0, 0, 0, 0);
        isPaper("FREED", x, 0, 6, 1, 1, NONE, 0, NONE);
        vain("FREED again", x, FREED, 0, 0, 0, 0);
        done("STOP again", x, STOP, 0, 7, 0, 0);
        done("STOLEN though STOPPED", x, STOLEN, 0, 2, 0, 0);
        isPaper("it stays STOPPED", x, 0, 6, 2, 1, NONE, 0, 7);
        done("a PASS, unpaid", x, PASS, 0, 3, 2, 0);
        isPaper("it stays STOPPED", x, 0, 6, 3, 1, NONE, 0, 7);
        done("a PASS, paid", x, PASS, 0, 4, 3, 1);
        vain("FREED behind a paid PASS", x, FREED, 0, 0, 0, 0);
    }

    private static void outOfEnoughCasks() {
        WharfPapers x = withPaper();
        vain("OUT of one more", x, OUT, 0, 0, 0, 7);
        done("OUT of all but one", x, OUT, 0, 0, 0, 5);
        vain("OUT of one more", x, OUT, 0, 0, 0, 2);
        done("OUT of the last", x, OUT, 0, 0, 0, 1);
        vain("OUT of none", x, OUT, 0, 0, 0, 1);
        Check.due("15 THERE", x.goods(0, 0, 0, 0), 4);
        Check.due("15 OUT", x.goods(0, 0, 0, 1), 6);
        Check.due("15 on WARRANTS", x.goods(0, 0, 0, 3), 0);
        isPaper("without casks", x, 0, 0, 1, 1, NONE, 0, NONE, 0);
    }

    private static void outOfEnoughThere() {
        WharfPapers x = withPaper();
        done("BURNT", x, BURNT, 0, 0, 0, 7);
        vain("OUT of one more than are THERE", x, OUT, 0, 0, 0, 4);
        done("OUT of all that are THERE", x, OUT, 0, 0, 0, 3);
        isPaper("casks that are not THERE", x, 0, 3);
        vain("OUT of none THERE", x, OUT, 0, 0, 0, 1);
        vain("BURNT of none THERE", x, BURNT, 0, 0, 0, 1);
        Check.due("15 THERE", x.goods(0, 0, 0, 0), 0);
        Check.due("15 OUT", x.goods(0, 0, 0, 1), 3);
        Check.due("15 BURNT", x.goods(0, 0, 0, 2), 7);
        Check.due("15 OVER", x.goods(0, 0, 0, 4), 3);
    }

    private static void outOfBound() {
        WharfPapers x = withPaper();
        done("LENT", x, LENT, 0, 4, 0, 9);
        vain("OUT of one LENT on", x, OUT, 0, 0, 0, 1);
        done("REPAID", x, REPAID, 0, 0, 0, 0);
        done("STOP", x, STOP, 0, 4, 0, 0);
        vain("OUT of one STOPPED", x, OUT, 0, 0, 0, 1);
        done("FREED", x, FREED, 0, 0, 0, 0);
        done("STOLEN", x, STOLEN, 0, 3, 0, 0);
        done("OUT to who HOLDS it, without the TITLE", x, OUT, 0, 0, 0, 1);
        isPaper("one OUT", x, 0, 5, 3, 1);
    }

    private static void burntOfThere() {
        WharfPapers x = Check.withLots(10, 10);
        vain("BURNT of one more", x, BURNT, 0, 0, 0, 11);
        done("BURNT of all but one", x, BURNT, 0, 0, 0, 9);
        vain("BURNT of one more", x, BURNT, 0, 0, 0, 2);
        done("BURNT of the last", x, BURNT, 0, 0, 0, 1);
        vain("BURNT of none", x, BURNT, 0, 0, 0, 1);
        Check.due("15 another LOT", x.goods(1, 0, 0, 0), 10);
        Check.due("15 another LOT", x.goods(1, 0, 0, 2), 0);
        done("BURNT of all", x, BURNT, 1, 0, 0, 10);
    }

    private static void stolen() {
        WharfPapers x = withPaper();
        vain("STOLEN by who HOLDS it", x, STOLEN, 0, 1, 0, 0);
        done("STOLEN by HOUSE 0", x, STOLEN, 0, 0, 0, 0);
        isPaper("the TITLE stays", x, 0, 6, 0, 1);
        vain("STOLEN by the thief again", x, STOLEN, 0, 0, 0, 0);
        done("STOLEN from the thief", x, STOLEN, 0, 7, 0, 0);
        isPaper("the TITLE stays", x, 0, 6, 7, 1);
        done("STOLEN by who has the TITLE", x, STOLEN, 0, 1, 0, 0);
        isPaper("both again", x, 0, 6, 1, 1);
    }

    /** Of each KIND that is about a WARRANT, one done a DAY too early. */
    private static void aboutPapersThatAreNotThere() {
        int[] kinds = {PASS, PART, LENT, REPAID, STOP, FREED, OUT, STOLEN};
        for (int kind : kinds) {
            for (int day = 3; day <= 5; day++) {
                WharfPapers x = Check.withLots(10, 10);
                x.go(9);
                x.line(ISSUE, 4, 0, 0, 0, 6);
                if (kind == REPAID) {
                    x.line(LENT, 4, 0, 7, 0, 5);
                } else if (kind == FREED) {
                    x.line(STOP, 4, 0, 7, 0, 5);
                }
                int i = x.line(kind, day, 0, 3, 0, 1);
                Check.due("7 KIND " + kind + " on " + day, x.told(i, 8), day < 4 ? 1 : 0);
                Check.due("9 KIND " + kind + " on " + day, x.count(4), day < 4 ? 1 : 0);
                Check.due("15 THERE", x.goods(0, 3, 9, 0), 10);
                Check.due("14 not there on 3", x.paper(0, 3, 9, 0), NOT);
            }
        }
        // a LINE of the same DAY with a lower number cannot be: what is of one DAY goes by numbers
        WharfPapers x = Check.withLots(10);
        x.go(9);
        x.line(ISSUE, 4, 0, 0, 0, 6);
        int early = x.line(STOLEN, 3, 0, 5, 0, 0);
        x.line(VOID, 4, early, 0, 0, 0);
        x.line(VOID, 9, 0, 0, 0, 0);
        int late = x.line(STOLEN, 9, 0, 5, 0, 0);
        Check.due("7 of a VOID WARRANT", x.told(late, 8), 1);
        Check.due("9 one is VAIN, two are VOID", x.count(4), 1);
        Check.due("9 one is VAIN, two are VOID", x.count(3), 2);
    }

    private static void aboutPapersOfVainParts() {
        int[] kinds = {PASS, PART, LENT, REPAID, STOP, FREED, OUT, STOLEN};
        WharfPapers x = withPaper();
        vain("a PART of all", x, PART, 0, 0, 0, 6);
        for (int kind : kinds) {
            WharfPapers y = withPaper();
            int none = vain("a PART of all", y, PART, 0, 0, 0, 6);
            int more = vain("KIND " + kind + " of it", y, kind, none, 0, 0, 1);
            if (kind == PART) {
                vain("a PASS of a PART of it", y, PASS, more, 2, 1, 1);
                Check.due("14 that is not there", y.paper(more, 0, 0, 0), NOT);
            }
            x.line(kind, 0, none, 0, 0, 1);
        }
        Check.due("9 all are VAIN", x.count(4), 1 + kinds.length);
        x.line(VOID, 0, 0, 0, 0, 0);
        Check.due("14 the first is not there", x.paper(0, 0, 0, 0), NOT);
        Check.due("9 all but the VOID are VAIN", x.count(4), 1 + kinds.length);
    }

    private static void termsOfTheDayItWasDone() {
        WharfPapers x = Check.withLots(10);
        Check.term(x, "let title 0;", 5);
        Check.term(x, "let title 1;", 7);
        Check.term(x, "let stop 1;", 5);
        Check.term(x, "let stop 0;", 7);
        x.go(20);
        x.line(ISSUE, 0, 0, 1, 0, 6);
        x.line(STOLEN, 0, 0, 2, 0, 0);
        for (int day = 4; day <= 8; day++) {
            boolean isRuled = day == 5 || day == 6;
            int pass = x.line(PASS, day, 0, 3, 2, 1);
            Check.due("14 title on " + day, x.paper(0, day, 20, 2), isRuled ? 1 : 3);
            x.line(VOID, 20, pass, 0, 0, 0);
            int stop = x.line(STOP, day, 0, 6, 0, 0);
            int stopped = x.line(PASS, day, 0, 3, 2, 0);
            Check.due("7 stop on " + day, x.told(stopped, 8), isRuled ? 1 : 0);
            Check.due("14 stop on " + day, x.paper(0, 20, 20, 1), isRuled ? 2 : 3);
            x.line(VOID, 20, stop, 0, 0, 0);
            x.line(VOID, 20, stopped, 0, 0, 0);
        }
    }

    private static void isShare(String what, WharfPapers x, int w, int upper, int lower) {
        int now = x.count(0);
        Check.due("16 " + what + ": upper", x.share(w, now, now, 0), upper);
        Check.due("16 " + what + ": lower", x.share(w, now, now, 1), lower);
    }

    private static void shareOfEnough() {
        WharfPapers x = Check.withLots(10);
        done("an ISSUE", x, ISSUE, 0, 1, 0, 4);
        isShare("fewer than are THERE", x, 0, 4, 1);
        done("an ISSUE", x, ISSUE, 0, 1, 0, 5);
        isShare("one fewer", x, 0, 4, 1);
        isShare("one fewer", x, 1, 5, 1);
        int last = done("an ISSUE", x, ISSUE, 0, 1, 0, 1);
        isShare("as many", x, 0, 4, 1);
        isShare("as many", x, last, 1, 1);
        done("OUT", x, OUT, 0, 0, 0, 4);
        isShare("none on it", x, 0, 0, 1);
        isShare("the others have theirs", x, 1, 5, 1);
    }

    private static void shareOfTooFew() {
        WharfPapers x = Check.withLots(10);
        done("an ISSUE", x, ISSUE, 0, 1, 0, 6);
        done("an ISSUE", x, ISSUE, 0, 1, 0, 5);
        isShare("6 times 10 by 11", x, 0, 60, 11);
        isShare("5 times 10 by 11", x, 1, 50, 11);
        done("BURNT", x, BURNT, 0, 0, 0, 9);
        isShare("6 times 1 by 11", x, 0, 6, 11);
        done("an ISSUE", x, ISSUE, 0, 1, 0, 1);
        isShare("6 times 1 by 12", x, 0, 1, 2);
        isShare("5 times 1 by 12", x, 1, 5, 12);
        done("BURNT", x, BURNT, 0, 0, 0, 1);
        isShare("6 times 0 by 12", x, 0, 0, 1);
        WharfPapers y = Check.withLots(200, 7);
        done("the most", y, ISSUE, 0, 1, 0, 200);
        done("the most", y, ISSUE, 0, 1, 0, 199);
        isShare("200 times 200 by 399", y, 0, 40000, 399);
        isShare("199 times 200 by 399", y, 1, 39800, 399);
        done("another LOT", y, ISSUE, 1, 1, 0, 14);
        isShare("another LOT has its own: 14 times 7 by 14", y, 2, 7, 1);
        isShare("this one still", y, 0, 40000, 399);
        WharfPapers z = Check.withLots(2);
        done("an ISSUE", z, ISSUE, 0, 1, 0, 2);
        done("OUT", z, OUT, 0, 0, 0, 2);
        done("an ISSUE", z, ISSUE, 0, 1, 0, 3);
        isShare("one without casks, of too few", z, 0, 0, 1);
        isShare("3 times 0 by 3", z, 2, 0, 1);
    }

    private static void over() {
        WharfPapers x = Check.withLots(10, 10);
        int[] on = {4, 9, 10, 11, 20};
        for (int n : on) {
            int i = done("an ISSUE", x, ISSUE, 0, 1, 0, n);
            Check.due("15 " + n + " of 10 on WARRANTS", x.goods(0, 0, 0, 3), n);
            Check.due("15 OVER", x.goods(0, 0, 0, 4), Math.max(0, n - 10));
            Check.due("15 of another LOT none", x.goods(1, 0, 0, 4), 0);
            x.line(VOID, 0, i, 0, 0, 0);
        }
        done("an ISSUE", x, ISSUE, 0, 1, 0, 10);
        done("BURNT", x, BURNT, 0, 0, 0, 1);
        Check.due("15 OVER by what was burnt", x.goods(0, 0, 0, 4), 1);
    }

    private static void isDoubt(String what, int casks, int[] papers, int... due) {
        WharfPapers x = Check.withLots(casks);
        for (int n : papers) {
            x.line(ISSUE, 0, 0, 1, 0, n);
        }
        isDoubtOf(what, x, 0, due);
    }

    private static void isDoubtOf(String what, WharfPapers x, int l, int... due) {
        int now = x.count(0);
        Check.due("17 " + what + ": how many", x.doubt(l, now, now, NONE), due.length);
        for (int i = 0; i < due.length; i++) {
            Check.due("17 " + what + ": " + i, x.doubt(l, now, now, i), due[i]);
        }
        for (int i : new int[] {due.length, 120, Integer.MAX_VALUE, -2, Integer.MIN_VALUE}) {
            Check.due("17 " + what + ": none such", x.doubt(l, now, now, i), NONE);
        }
    }

    private static void doubtOfNone() {
        isDoubt("no WARRANTS", 10, new int[0]);
        isDoubt("fewer", 10, new int[] {9});
        isDoubt("as many", 10, new int[] {9, 1});
        isDoubt("one OVER", 10, new int[] {9, 1, 1}, 0);
        isDoubt("one OVER, the first has one", 10, new int[] {1, 9, 1}, 0);
    }

    private static void doubtOfTheFewest() {
        isDoubt("one of one cask is enough", 1, new int[] {1, 1}, 0);
        isDoubt("all but one of one cask", 1, new int[] {1, 1, 1, 1}, 0, 1, 2);
        isDoubt("one of two rather than two of one", 2, new int[] {1, 1, 2}, 2);
        isDoubt("the largest alone: 101 of 300", 199, new int[] {50, 50, 50, 49, 101}, 4);
        isDoubt("one more: 102 of 300", 198, new int[] {50, 50, 50, 49, 101}, 0, 4);
        isDoubt("just enough: 100", 100, new int[] {100, 100}, 0);
        isDoubt("one too few: 99 and 1", 100, new int[] {1, 99, 100}, 2);
        isDoubt("the most casks", 200, new int[] {200, 200, 200}, 0, 1);
        isDoubt("all, when none is THERE at last", 1, new int[] {200, 200, 2}, 0, 1, 2);
        WharfPapers x = Check.withLots(10);
        done("an ISSUE", x, ISSUE, 0, 1, 0, 3);
        done("an ISSUE", x, ISSUE, 0, 1, 0, 4);
        done("BURNT", x, BURNT, 0, 0, 0, 10);
        isDoubtOf("none is THERE", x, 0, 0, 1);
        done("an ISSUE", x, ISSUE, 0, 1, 0, 1);
        isDoubtOf("none is THERE", x, 0, 0, 1, 3);
    }

    private static void doubtOfTheFirst() {
        isDoubt("of like ones the first", 10, new int[] {5, 5, 5}, 0);
        isDoubt("of two the first, if they are enough", 10, new int[] {6, 9, 5}, 0, 1);
        isDoubt("the first is of none that are enough: 9 of 2, 6, 6, 5", 10, new int[] {2, 6, 6, 5}, 1, 2);
        isDoubt("11 of 4, 6, 6, 5", 10, new int[] {4, 6, 6, 5}, 1, 2);
        isDoubt("12 of 5, 6, 6, 5", 10, new int[] {5, 6, 6, 5}, 1, 2);
        isDoubt("the second is passed by: 10 of 4, 3, 7, 2", 6, new int[] {4, 3, 7, 2}, 0, 2);
        isDoubt("14 of 1, 5, 5, 5, 4", 6, new int[] {1, 5, 5, 5, 4}, 1, 2, 3);
        isDoubt("14 of 4, 5, 5, 5, 1", 6, new int[] {4, 5, 5, 5, 1}, 0, 1, 2);
        isDoubt("14 of 5, 1, 5, 4, 5", 6, new int[] {5, 1, 5, 4, 5}, 0, 2, 3);
        isDoubt("one counts once: 19 of 9, 1, 5, 5", 1, new int[] {9, 1, 5, 5}, 0, 2, 3);
        WharfPapers x = Check.withLots(100);
        for (int i = 0; i < 120; i++) {
            x.line(ISSUE, 0, 0, 1, 0, 1);
        }
        Check.due("17 20 of 120", x.doubt(0, 0, 0, NONE), 20);
        Check.due("17 the last of them", x.doubt(0, 0, 0, 19), 19);
        Check.due("17 none behind it", x.doubt(0, 0, 0, 20), NONE);
    }

    private static void doubtOfOneLot() {
        WharfPapers x = Check.withLots(10, 10);
        done("an ISSUE", x, ISSUE, 1, 1, 0, 30);
        done("an ISSUE", x, ISSUE, 0, 1, 0, 6);
        done("an ISSUE", x, ISSUE, 0, 1, 0, 7);
        done("an ISSUE", x, ISSUE, 0, 1, 0, 5);
        isDoubtOf("8 of 6, 7, 5, by that LOT's alone", x, 0, 1, 2);
        isDoubtOf("the other LOT", x, 1, 0);
        isDoubtOf("asked again", x, 0, 1, 2);
        done("BURNT", x, BURNT, 0, 0, 0, 6);
        isDoubtOf("14 of 6, 7, 5: all", x, 0, 1, 2, 3);
        done("OUT", x, OUT, 3, 0, 0, 4);
        isDoubtOf("14 of 6, 7, 1, none THERE: all", x, 0, 1, 2, 3);
        WharfPapers z = Check.withLots(200, 10);
        for (int n : new int[] {200, 200}) {
            done("an ISSUE", z, ISSUE, 0, 1, 0, n);
        }
        for (int n : new int[] {8, 8, 8}) {
            done("an ISSUE", z, ISSUE, 1, 1, 0, n);
        }
        isDoubtOf("200 of 200, 200", z, 0, 0);
        isDoubtOf("14 of 8, 8, 8, none of the other LOT's", z, 1, 2, 3);
        isDoubtOf("asked again", z, 0, 0);
        WharfPapers y = Check.withLots(10);
        done("an ISSUE", y, ISSUE, 0, 1, 0, 3);
        done("an ISSUE", y, ISSUE, 0, 1, 0, 9);
        done("OUT", y, OUT, 0, 0, 0, 3);
        isDoubtOf("2 of 0 and 9", y, 0, 1);
        int part = done("a PART", y, PART, 1, 0, 0, 7);
        isDoubtOf("2 of 2 and 7", y, 0, 1);
        done("OUT", y, OUT, 1, 0, 0, 2);
        isDoubtOf("2 of 7", y, 0, part);
    }

    /** 8 casks from DAY 2 on and 5 from 4 on (told on 9), 8 of 10 BURNT on 6 (told on 10), the first VOID (told on 11). */
    private static void doubtOnADayAsKnown() {
        WharfPapers x = Check.withLots(10);
        x.go(9);
        x.line(ISSUE, 2, 0, 1, 0, 8);
        x.line(ISSUE, 4, 0, 1, 0, 5);
        x.go(1);
        x.line(BURNT, 6, 0, 0, 0, 8);
        x.go(1);
        x.line(VOID, 11, 0, 0, 0, 0);
        for (int day : new int[] {0, 1, 2, 3, 4, 5, 6, 7, 11, 12, 2000}) {
            String on = "17 on " + day + " as known on ";
            Check.due(on + 8, x.doubt(0, day, 8, NONE), 0);
            Check.due(on + 9, x.doubt(0, day, 9, NONE), day < 4 ? 0 : 1);
            Check.due(on + 9, x.doubt(0, day, 9, 0), day < 4 ? NONE : 0);
            Check.due(on + 10, x.doubt(0, day, 10, NONE), day < 4 ? 0 : day < 6 ? 1 : 2);
            Check.due(on + 10, x.doubt(0, day, 10, 1), day < 6 ? NONE : 1);
            Check.due(on + 11, x.doubt(0, day, 11, NONE), day < 6 ? 0 : 1);
            Check.due(on + 11, x.doubt(0, day, 11, 0), day < 6 ? NONE : 1);
        }
    }

    /** What is done by a WARRANT is done to its own LOT. */
    private static void papersOfTheLastLot() {
        WharfPapers x = Check.withLots(10, 11, 12, 13, 14, 15, 16, 17, 18, 19, 20, 21);
        done("an ISSUE", x, ISSUE, 11, 1, 0, 9);
        int part = done("a PART", x, PART, 0, 0, 0, 4);
        done("OUT", x, OUT, part, 0, 0, 3);
        isPaper("a PART", x, part, 1, 1, 1, NONE, 0, NONE, 11);
        for (int l = 0; l < 12; l++) {
            Check.due("15 THERE", x.goods(l, 0, 0, 0), l == 11 ? 18 : 10 + l);
            Check.due("15 OUT", x.goods(l, 0, 0, 1), l == 11 ? 3 : 0);
            Check.due("15 casks on WARRANTS", x.goods(l, 0, 0, 3), l == 11 ? 6 : 0);
            Check.due("15 WARRANTS with casks", x.goods(l, 0, 0, 5), l == 11 ? 2 : 0);
        }
        done("an ISSUE", x, ISSUE, 11, 1, 0, 15);
        isDoubtOf("3 of 5, 1, 15", x, 11, 0);
        isDoubtOf("another LOT", x, 10);
        WharfPapers y = Check.withLots(10);
        done("BURNT", y, BURNT, 0, 0, 0, 6);
        done("an ISSUE", y, ISSUE, 0, 1, 0, 5);
        done("LENT", y, LENT, 1, 4, 0, 50);
        isDoubtOf("1 of 5, and LINE 0 is no WARRANT", y, 0, 1);
        Check.due("25 LENT on it", y.money(0, 99999, 0, 1), 50);
    }

    private static void stockOfHouses() {
        WharfPapers x = new WharfPapers();
        for (int s = 0; s < 4; s++) {
            x.lot(s, 100, 10, 0, 0);
        }
        for (int h = 0; h < 8; h++) {
            for (int s = 0; s < 4; s++) {
                x.line(ISSUE, 0, s, h, 0, 1 + h + 8 * s);
            }
        }
        for (int h = 0; h < 8; h++) {
            for (int s = 0; s < 4; s++) {
                Check.due("18 TITLE", x.stock(h, s, 0), 1 + h + 8 * s);
                Check.due("18 HOLDS", x.stock(h, s, 1), 1 + h + 8 * s);
            }
        }
        x.line(STOLEN, 0, 0, 7, 0, 0);
        Check.due("18 the TITLE stays", x.stock(0, 0, 0), 1);
        Check.due("18 it HOLDS none", x.stock(0, 0, 1), 0);
        Check.due("18 the thief HOLDS both", x.stock(7, 0, 1), 9);
        Check.due("18 with one TITLE", x.stock(7, 0, 0), 8);
        x.line(OUT, 0, 0, 0, 0, 1);
        Check.due("18 what is OUT is none", x.stock(0, 0, 0), 0);
        Check.due("18 what is OUT is none", x.stock(7, 0, 1), 8);
        WharfPapers y = withPaper();
        y.go(5);
        y.line(PASS, 5, 0, 2, 1, 0);
        Check.due("18 today with it", y.stock(2, 0, 0), 6);
        y.line(VOID, 5, 1, 0, 0, 0);
        Check.due("18 AS KNOWN now", y.stock(2, 0, 0), 0);
        Check.due("18 AS KNOWN now", y.stock(1, 0, 1), 6);
    }

    private static void news() {
        int[][] lines = {{LENT, 5, 0}, {STOP, 5, 0}, {OUT, 0, 0}, {STOLEN, 5, 1}, {STOLEN, 1, 0}, {VOID, 0, 1}, {PART, 0, 1}};
        for (int[] row : lines) {
            WharfPapers x = withPaper();
            x.go(3);
            x.line(row[0], 2, 0, row[1], 0, 1);
            Check.due("19 KIND " + row[0] + " by " + row[1], x.news(2, 2, 3), row[2]);
            Check.due("19 the other way", x.news(2, 3, 2), row[2]);
            Check.due("19 ahead of its DAY", x.news(1, 2, 3), row[0] == VOID ? 1 : 0);
            Check.due("19 AS KNOWN on one DAY", x.news(2, 3, 3), 0);
            Check.due("19 ahead of its telling", x.news(2, 0, 2), 0);
        }
        WharfPapers x = withPaper();
        x.line(STOLEN, 0, 0, 2, 0, 0);
        x.go(1);
        x.line(PASS, 1, 0, 2, 2, 1);
        Check.due("19 another TITLE alone", x.news(1, 0, 1), 1);
        x.line(PASS, 1, 0, 3, 2, 1);
        Check.due("19 both are one", x.news(1, 0, 1), 1);
        x.line(ISSUE, 1, 0, 1, 0, 1);
        Check.due("19 one that was not there", x.news(1, 0, 1), 2);
        Check.due("19 not there in both", x.news(0, 0, 1), 0);
        // there and back again is no news
        WharfPapers y = withPaper();
        y.go(1);
        y.line(STOLEN, 1, 0, 2, 0, 0);
        Check.due("19 STOLEN", y.news(1, 0, 1), 1);
        y.line(STOLEN, 1, 0, 1, 0, 0);
        Check.due("19 and back", y.news(1, 0, 1), 0);
        Check.due("19 on the last DAY", y.news(2000, 0, 1), 0);
    }

    /** What came behind the DAY is not looked at, AS KNOWN on either. */
    private static void newsOnADay() {
        WharfPapers x = withPaper();
        x.go(3);
        x.line(PASS, 3, 0, 2, 1, 1);
        x.go(2);
        x.line(STOLEN, 2, 0, 3, 0, 0);
        for (int day = 0; day <= 6; day++) {
            // AS KNOWN on 5 the thief has it from 2 on, so that the PASS is VAIN
            Check.due("19 on " + day + ", 4 and 5", x.news(day, 4, 5), day < 2 ? 0 : 1);
            Check.due("19 on " + day + ", 5 and 4", x.news(day, 5, 4), day < 2 ? 0 : 1);
            Check.due("19 on " + day + ", 2 and 4", x.news(day, 2, 4), day < 3 ? 0 : 1);
            Check.due("19 on " + day + ", 4 and 2", x.news(day, 4, 2), day < 3 ? 0 : 1);
            Check.due("19 on " + day + ", 2 and 5", x.news(day, 2, 5), day < 2 ? 0 : 1);
        }
    }

    private static void askedOf120Papers() {
        WharfPapers x = new WharfPapers();
        x.lot(3, 200, 10, 0, 0);
        x.go(1);
        for (int w = 0; w < 120; w++) {
            x.line(ISSUE, 1, 0, w % 8, 0, 2);
        }
        Check.due("19 120 that were not there", x.news(1, 0, 1), 120);
        Check.due("19 none ahead of their DAY", x.news(0, 0, 1), 0);
        Check.due("9 120 with casks", x.count(5), 120);
        Check.due("15 120 with casks", x.goods(0, 1, 1, 5), 120);
        Check.due("15 240 casks", x.goods(0, 1, 1, 3), 240);
        Check.due("9 20 are DOUBLE", x.count(6), 20);
        Check.due("18 15 of each HOUSE", x.stock(7, 3, 0), 30);
        isPaper("the last", x, 119, 2, 7, 7, NONE, 0, NONE, 0);
        isShare("2 times 200 by 240", x, 119, 5, 3);
        Check.due("17 20 of them have 40 casks", x.doubt(0, 1, 1, NONE), 20);
        Check.due("25 no bank", x.money(0, 99999, 1, 1), 0);
        Check.due("7 the last", x.told(119, 8), 0);
        Check.due("8 the last", x.book(1, 119), 119);
    }

    /** Each answer is by the DAYS that it is asked for, whatever was asked before. */
    private static void whatWasAskedBefore() {
        WharfPapers x = withPaper();
        x.go(1);
        x.line(LENT, 1, 0, 4, 0, 50);
        x.line(STOP, 1, 0, 5, 0, 0);
        isPaper("LENT and STOPPED", x, 0, 6, 1, 1, 4, 50, 5);
        for (int what = 3; what <= 5; what++) {
            Check.due("14 the DAY before", x.paper(0, 0, 1, what), what == 4 ? 0 : NONE);
            Check.due("14 as known before", x.paper(0, 1, 0, what), what == 4 ? 0 : NONE);
        }
        x.line(ISSUE, 1, 0, 1, 0, 200);
        Check.due("9 DOUBLE, asked first", x.count(6), 1);
        x.line(VOID, 1, 3, 0, 0, 0);
        Check.due("9 none now", x.count(6), 0);
        Check.due("15 casks", x.goods(0, 1, 1, 3), 6);
        x.line(VOID, 1, 1, 0, 0, 0);
        x.line(VOID, 1, 2, 0, 0, 0);
        isPaper("as it was", x, 0, 6, 1, 1, NONE, 0, NONE);
    }

    /** What they had when they were asked about before is not counted. */
    private static void papersThatAreVoidNow() {
        WharfPapers x = withPaper();
        done("LENT", x, LENT, 0, 4, 0, 50);
        Check.due("9 there", x.count(5), 1);
        Check.due("15 there", x.goods(0, 0, 0, 5), 1);
        Check.due("18 there", x.stock(1, 0, 0), 6);
        Check.due("25 there", x.money(0, 99999, 0, 1), 50);
        x.line(VOID, 0, 0, 0, 0, 0);
        Check.due("9 VOID", x.count(5), 0);
        Check.due("15 VOID", x.goods(0, 0, 0, 5), 0);
        Check.due("18 VOID", x.stock(1, 0, 0), 0);
        Check.due("18 VOID", x.stock(1, 0, 1), 0);
        Check.due("25 VOID", x.money(0, 99999, 0, 1), 0);
        WharfPapers y = Check.withLots(10);
        for (int w = 0; w < 3; w++) {
            done("an ISSUE", y, ISSUE, 0, 1, 0, 8);
        }
        isDoubtOf("14 of 8, 8, 8", y, 0, 0, 1);
        y.line(VOID, 0, 0, 0, 0, 0);
        isDoubtOf("6 of 8, 8", y, 0, 1);
    }
}
