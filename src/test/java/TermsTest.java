/** Promises 10 to 13. */
public final class TermsTest {
    private static final int NONE = -1, OUTSIDE = -1002, FULL = -1004;

    public static void main(String[] args) {
        feed();
        termRefusals();
        atFirst();
        ruling();
        strikes();
        goodTexts();
        faults();
        faultsOfNumbers();
        faultsOfClauses();
        force();
        Check.end();
    }

    private static void feed() {
        WharfPapers x = new WharfPapers();
        Check.due("10 n 0", x.feed(0, 5), OUTSIDE);
        Check.due("10 n 9", x.feed(9, 5), OUTSIDE);
        Check.due("10 n -1", x.feed(-1, 5), OUTSIDE);
        Check.due("10 one", x.feed(1, -1L), 1);
        for (int k = 1; k < 20; k++) {
            Check.due("10 eight", x.feed(8, Long.MIN_VALUE), 1 + 8 * k);
        }
        Check.due("10 eight do not fit", x.feed(8, 0), FULL);
        Check.due("10 n 9 at the end", x.feed(9, 0), OUTSIDE);
        Check.due("10 none of them came", x.count(10), 153);
        Check.due("10 seven fit", x.feed(7, 0), 160);
        Check.due("10 one more does not", x.feed(1, 0), FULL);
        // of n bytes the highest first, and no higher byte of the long
        WharfPapers y = new WharfPapers();
        y.feed(3, 0x7F7F7F7F7F6C6574L);
        y.feed(8, 0x2072656E7420373BL);
        Check.due("10 let rent 7;", y.term(0), 0);
        Check.due("10 rent", y.force(0, 0), 7);
    }

    private static void termRefusals() {
        WharfPapers x = new WharfPapers();
        Check.feed(x, "let rent 7;");
        Check.due("11 DAY -1", x.term(-1), OUTSIDE);
        Check.due("11 DAY 2001", x.term(2001), OUTSIDE);
        Check.due("11 THE TEXT stays", x.count(10), 11);
        Check.due("11 no fault yet", x.fault(), NONE);
        Check.due("11 TERM 0", x.term(2000), 0);
        Check.due("11 THE TEXT is empty", x.count(10), 0);
        Check.due("11 bad", Check.term(x, "let bent 7;", 0), -11);
        Check.due("12 at 4", x.fault(), 4);
        Check.due("11 THE TEXT is empty behind a FAULT", x.count(10), 0);
        Check.due("11 no TERM of a FAULT", x.count(7), 1);
        Check.due("11 refused", x.term(3000), OUTSIDE);
        Check.due("12 still at 4", x.fault(), 4);
        for (int t = 1; t < 8; t++) {
            Check.due("11 TERM " + t, Check.term(x, "let bear 1;", t), t);
            Check.due("12 none", x.fault(), NONE);
        }
        Check.feed(x, "strike 8;");
        Check.due("11 full, DAY first", x.term(-1), OUTSIDE);
        Check.due("11 full", x.term(5), FULL);
        Check.due("11 THE TEXT stays", x.count(10), 9);
        Check.due("12 none", x.fault(), NONE);
        Check.due("9 TERMS", x.count(7), 8);
    }

    private static void atFirst() {
        WharfPapers x = new WharfPapers();
        int[] due = {2, 1, 0, 10, 0, 0, 0, 0, 0, 4, 0, 1, 2, 3};
        for (int what = 0; what < due.length; what++) {
            Check.due("13 at first " + what, x.force(what, 0), due[what]);
            Check.due("13 at last " + what, x.force(what, 2000), due[what]);
        }
    }

    private static void ruling() {
        WharfPapers x = new WharfPapers();
        Check.due("13 TERM 0", Check.term(x, "let rent 9;let rent 8;dry 3 by 999;rank owner;", 10), 0);
        Check.due("13 TERM 1", Check.term(x, "let rent 7;dry 3 by 1;rank seller,rent,owner,bank;", 5), 1);
        Check.due("13 TERM 2", Check.term(x, "let rent 6;let beyond 1;", 10), 2);
        Check.due("13 before all", x.force(0, 4), 2);
        Check.due("13 the earlier DAY", x.force(0, 5), 7);
        Check.due("13 the earlier DAY", x.force(0, 9), 7);
        Check.due("13 of one DAY the later number", x.force(0, 10), 6);
        Check.due("13 a later DAY rules, whatever its number", x.force(8, 10), 999);
        Check.due("13 dry before", x.force(8, 9), 1);
        Check.due("13 other SORTS", x.force(7, 10), 0);
        Check.due("13 keys", x.force(9, 9), 4);
        int[] keys = {2, 0, 3, 1};
        for (int k = 0; k < 4; k++) {
            Check.due("13 key " + k, x.force(10 + k, 9), keys[k]);
            Check.due("13 key " + k + " of one", x.force(10 + k, 10), k == 0 ? 3 : NONE);
        }
        Check.due("13 one key", x.force(9, 2000), 1);
        Check.due("13 beyond", x.force(4, 10), 1);
        WharfPapers y = new WharfPapers();
        Check.due("13 in one TERM the last rules", Check.term(y, "let rent 9;let rent 8;", 0), 0);
        Check.due("13 rent", y.force(0, 0), 8);
    }

    private static void strikes() {
        WharfPapers x = new WharfPapers();
        Check.term(x, "let rent 10;", 0);
        Check.term(x, "strike 0;let title 0;", 20);
        Check.term(x, "strike 1;let bear 5;", 30);
        Check.term(x, "strike 2;", 40);
        Check.due("13 rent on 0", x.force(0, 19), 10);
        Check.due("13 struck from 20 on", x.force(0, 20), 2);
        Check.due("13 title on 20", x.force(1, 20), 0);
        Check.due("13 the strike is struck on 30", x.force(0, 30), 10);
        Check.due("13 its title too", x.force(1, 30), 1);
        Check.due("13 bear on 30", x.force(3, 30), 5);
        Check.due("13 that one is struck on 40", x.force(0, 40), 2);
        Check.due("13 title on 40", x.force(1, 40), 0);
        Check.due("13 bear on 40", x.force(3, 40), 10);
        WharfPapers y = new WharfPapers();
        Check.term(y, "let rent 10;", 50);
        Check.term(y, "strike 0;", 20);
        Check.due("13 struck before it is in force", y.force(0, 60), 2);
        WharfPapers z = new WharfPapers();
        Check.term(z, "let rent 10;let stop 1;", 5);
        Check.term(z, "strike 0; strike 0;", 9);
        Check.due("13 stop", z.force(2, 8), 1);
        Check.due("13 no clause of it", z.force(2, 9), 0);
        Check.due("13 no clause of it", z.force(0, 9), 2);
    }

    private static void goodTexts() {
        String[] good = {"", "   ", "let rent5;", "let rent 0005;", " let  rent  5 ; ", "dry0by999;", "dry 3 by 0;",
            "rank rent;", "rank rent,bank , seller,owner;", "let bear 999;let bear 0;", "let stop 1;let title 0;let beyond 1;",
            "let rent 1;let rent 1;let rent 1;let rent 1;let rent 1;let rent 1;let rent 1;let rent 1;let rent 1;let rent 1; "};
        for (String text : good) {
            WharfPapers x = new WharfPapers();
            Check.due("11 \"" + text + "\"", Check.term(x, text, 0), 0);
            Check.due("12 \"" + text + "\"", x.fault(), NONE);
        }
    }

    private static void bad(String text, int fault, int at) {
        WharfPapers x = new WharfPapers();
        Check.due("11 \"" + text + "\"", Check.term(x, text, 0), -10 - fault);
        Check.due("12 \"" + text + "\"", x.fault(), at);
        Check.due("11 no TERM", x.count(7), 0);
    }

    private static void faults() {
        bad("x", 1, 0);
        bad(";", 1, 0);
        bad("5", 1, 0);
        bad("le", 1, 0);
        bad("Let rent 5;", 1, 0);
        bad("let", 1, 3);
        bad("let  ", 1, 5);
        bad("letrent 5;", 1, 0);
        bad("let rentt 5;", 1, 4);
        bad("let ren t 5;", 1, 4);
        bad("let Rent 5;", 1, 4);
        bad("let rent", 1, 8);
        bad("let rent;", 1, 8);
        bad("let rent x;", 1, 9);
        bad("let rent 5", 1, 10);
        bad("let rent 5   ", 1, 13);
        bad("let rent 5 5;", 1, 11);
        bad("let rent 5x;", 1, 10);
        bad("let rent 5,", 1, 10);
        bad("let rent 5;;", 1, 11);
        bad("let\trent 5;", 1, 3);
        bad("let rent -5;", 1, 9);
        bad("let rent 5\0;", 1, 10);
        bad("let r\u00e9nt 5;", 1, 4);
        bad("let \u00ffrent 5;", 1, 4);
        bad("let rank 5;", 1, 4);
        bad("let bank 5;", 1, 4);
        bad("dry rent by 5;", 1, 4);
        bad("dry 1 5;", 1, 6);
        bad("dry 1 bye 5;", 1, 6);
        bad("dry 1 by;", 1, 8);
        bad("dry 1 by 5,", 1, 10);
        bad("rank;", 1, 4);
        bad("rank title;", 1, 5);
        bad("rank rent bank;", 1, 10);
        bad("rank rent,;", 1, 10);
        bad("rank rent,bank", 1, 14);
        bad("rank ,rent;", 1, 5);
        bad("strike;", 1, 6);
        bad("strike x;", 1, 7);
        bad("strikes 1;", 1, 0);
        bad("letz rent 5;", 1, 0);
        bad("let arent 5;", 1, 4);
        bad("let rent`5;", 1, 8);
        bad("let rent{5;", 1, 8);
        bad("let rent 5/", 1, 10);
        bad("let rent 5:", 1, 10);
    }

    private static void faultsOfNumbers() {
        bad("let rent 100;", 2, 9);
        bad("let rent 00001;", 2, 9);
        bad("let rent 99999999999999999999;", 2, 9);
        bad("let rent 4294967296;", 2, 9);
        bad("let title 2;", 2, 10);
        bad("let stop 2;", 2, 9);
        bad("let bear 1000;", 2, 9);
        bad("let beyond 2;", 2, 11);
        bad("dry 4 by 1;", 2, 4);
        bad("dry 00000 by 1;", 2, 4);
        bad("dry 3 by 1000;", 2, 9);
        bad("dry 4 xx", 2, 4);
        bad("12345", 1, 0);
        bad("let 12345;", 1, 4);
        bad("strike 12345;", 2, 7);
        bad("strike 00000;", 2, 7);
        bad("strike 9999;", 3, 7);
        bad("strike 0;", 3, 7);
        bad("strike  0x", 3, 8);
    }

    private static void faultsOfClauses() {
        bad("rank rent,rent;", 4, 10);
        bad("rank rent,bank,seller,owner,rent;", 4, 28);
        bad("rank rent,bank,rent,owner;", 4, 15);
        bad("rank rent,rents;", 1, 10);
        String ten = "dry 1 by 1;dry 1 by 1;dry 1 by 1;dry 1 by 1;dry 1 by 1;"
            + "dry 1 by 1;dry 1 by 1;dry 1 by 1;dry 1 by 1;dry 1 by 1;";
        WharfPapers x = new WharfPapers();
        Check.due("11 ten clauses", Check.term(x, ten, 0), 0);
        bad(ten + " let rent 1;", 5, 111);
        bad(ten + "let x", 5, 110);
        bad(ten + "strike", 5, 110);
        bad(ten + "lets", 1, 110);
        bad(ten + "  ;", 1, 112);
        bad(ten + "1", 1, 110);
        WharfPapers y = new WharfPapers();
        Check.due("11 one TERM", Check.term(y, "let rent 1;", 0), 0);
        Check.due("11 itself is not there already", Check.term(y, "strike 1;", 0), -13);
        Check.due("12 at 7", y.fault(), 7);
        Check.due("11 the one there is", Check.term(y, "strike 0;", 0), 1);
        Check.due("12 none", y.fault(), NONE);
    }

    private static void force() {
        WharfPapers x = new WharfPapers();
        Check.due("13 what -1", x.force(-1, 0), OUTSIDE);
        Check.due("13 what 14", x.force(14, 0), OUTSIDE);
        Check.due("13 DAY -1", x.force(0, -1), OUTSIDE);
        Check.due("13 DAY 2001", x.force(0, 2001), OUTSIDE);
        Check.term(x, "let rent 99;let title 0;let stop 1;let bear 999;let beyond 1;", 2000);
        Check.term(x, "dry 0 by 1;dry 1 by 2;dry 2 by 3;dry 3 by 4;rank bank,owner;", 2000);
        int[] due = {99, 0, 1, 999, 1, 1, 2, 3, 4, 2, 1, 3, NONE, NONE};
        for (int what = 0; what < due.length; what++) {
            Check.due("13 force " + what, x.force(what, 2000), due[what]);
        }
        Check.due("13 a DAY before", x.force(0, 1999), 2);
    }
}
