import java.util.List;

/** Promises 10 to 13 and part 2 of the terms: the edges that the sentences name, one by one. */
public final class TermEdgesTest {
    private static final int NONE = -1, OUTSIDE = -1002, FULL = -1004;
    private static final String[] NAMES = {"rent", "title", "stop", "bear", "beyond"};
    private static final int[] MOST = {99, 1, 1, 999, 1};
    private static final String[] KEYS = {"rent", "bank", "seller", "owner"};
    private static final String[] WORDS = {"let", "dry", "rank", "strike", "by", "rent", "title", "stop", "bear", "beyond", "bank", "seller", "owner"};

    public static void main(String[] args) {
        bytesOfALong();
        textsOf160Bytes();
        termsAreEight();
        textBehindAFault();
        textBehindARefusal();
        faultOfTheLatest();
        boundsOfNames();
        boundsOfDry();
        figuresOfNumbers();
        keysInAllOrders();
        keysAgain();
        wordsOutOfPlace();
        everyByteInEveryGap();
        theEndAtEveryByte();
        wordsAndNumbersSideBySide();
        blanksWithinWords();
        strikesOfTermsThatThereAre();
        theFirstByteThatHasOne();
        elevenClauses();
        termsInForceFromADayOn();
        theLastRules();
        strikesFromADayOn();
        strikesOfStrikes();
        twoStrikesOfOne();
        Check.end();
    }

    private static void good(String text) {
        is(text, 0, NONE);
    }

    private static void bad(String text, int fault, int at) {
        is(text, fault, at);
    }

    /** TERM 0 is there already, so that a strike of it is fine. */
    private static void is(String text, int fault, int at) {
        WharfPapers x = new WharfPapers();
        x.term(2000);
        Check.due("11 \"" + text + "\"", Check.term(x, text, 0), fault == 0 ? 1 : -10 - fault);
        Check.due("12 \"" + text + "\"", x.fault(), at);
        Check.due("9 TERMS with \"" + text + "\"", x.count(7), fault == 0 ? 2 : 1);
    }

    private static String blanks(int n) {
        return " ".repeat(n);
    }

    /** Of n bytes the highest comes first; what is above them in the long is not looked at. */
    private static void bytesOfALong() {
        String text = "let bear 123;   ";
        for (int n = 1; n <= 8; n++) {
            for (long above : new long[] {0, -1}) {
                WharfPapers x = new WharfPapers();
                int have = 0;
                while (have < text.length()) {
                    long packed = above;
                    for (int k = 0; k < n; k++) {
                        packed = packed << 8 | (have + k < text.length() ? text.charAt(have + k) : ' ');
                    }
                    have += n;
                    Check.due("10 by " + n + " bytes", x.feed(n, packed), have);
                }
                Check.due("11 by " + n + " bytes", x.term(0), 0);
                Check.due("13 by " + n + " bytes", x.force(3, 0), 123);
            }
        }
    }

    private static void textsOf160Bytes() {
        good("let rent 9;" + blanks(149));
        good(blanks(149) + "let rent 9;");
        good(blanks(160));
        bad("let rent 9" + blanks(150), 1, 160);
        bad(blanks(150) + "let rent 9", 1, 160);
        bad(blanks(159) + "x", 1, 159);
        bad("a".repeat(160), 1, 0);
        bad("let rent " + "9".repeat(151), 2, 9);
        bad(";".repeat(160), 1, 0);
        WharfPapers x = new WharfPapers();
        Check.feed(x, blanks(152) + "let rent");
        Check.due("10 full", x.feed(1, ' '), FULL);
        Check.due("10 it stays", x.count(10), 160);
        Check.due("11 the end is at 160", x.term(0), -11);
        Check.due("12 the end is at 160", x.fault(), 160);
        Check.due("10 there is room again", x.feed(8, 0x2020202020202020L), 8);
    }

    private static void termsAreEight() {
        WharfPapers x = new WharfPapers();
        for (int t = 0; t < 8; t++) {
            Check.due("11 a FAULT makes none", Check.term(x, "x", 0), -11);
            Check.due("11 TERM " + t, Check.term(x, "let rent " + (t + 10) + ";", t), t);
        }
        Check.feed(x, "let rent 99;");
        Check.due("11 no ninth", x.term(0), FULL);
        Check.due("11 OUTSIDE ahead of FULL", x.term(2001), OUTSIDE);
        Check.due("9 TERMS", x.count(7), 8);
        Check.due("13 all eight hold", x.force(0, 2000), 17);
        for (int t = 0; t < 8; t++) {
            Check.due("13 TERM " + t + " on its DAY", x.force(0, t), t + 10);
        }
        WharfPapers y = new WharfPapers();
        for (int t = 0; t < 8; t++) {
            y.term(0);
        }
        Check.feed(y, "x");
        Check.due("11 FULL, though it has a FAULT", y.term(0), FULL);
        Check.due("12 that FAULT is not told", y.fault(), NONE);
        Check.due("9 THE TEXT stays", y.count(10), 1);
    }

    private static void textBehindAFault() {
        WharfPapers x = new WharfPapers();
        Check.due("11 a FAULT", Check.term(x, "let rent 7; let", 0), -11);
        Check.due("9 THE TEXT is empty then", x.count(10), 0);
        Check.due("13 no clause of it holds", x.force(0, 2000), 2);
        Check.due("11 what comes is a TEXT of its own", Check.term(x, "let bear 7;", 0), 0);
        Check.due("12 no FAULT", x.fault(), NONE);
        Check.due("13 it holds", x.force(3, 0), 7);
        Check.due("9 THE TEXT is empty then", x.count(10), 0);
    }

    private static void textBehindARefusal() {
        WharfPapers x = new WharfPapers();
        Check.feed(x, "let be");
        Check.due("11 DAY -1", x.term(-1), OUTSIDE);
        Check.due("11 DAY 2001", x.term(2001), OUTSIDE);
        Check.due("9 THE TEXT stays", x.count(10), 6);
        Check.due("10 n 0", x.feed(0, 'x'), OUTSIDE);
        Check.due("10 n 9", x.feed(9, 'x'), OUTSIDE);
        Check.due("10 and goes on", x.feed(5, 0x617220373BL), 11);
        Check.due("11 it is a TERM", x.term(2000), 0);
        Check.due("13 on the last DAY", x.force(3, 2000), 7);
        Check.due("13 on the DAY before", x.force(3, 1999), 10);
    }

    private static void faultOfTheLatest() {
        WharfPapers x = new WharfPapers();
        Check.due("12 at first", x.fault(), NONE);
        Check.due("11", x.term(-1), OUTSIDE);
        Check.due("12 none of what was refused", x.fault(), NONE);
        Check.due("11", Check.term(x, "x", 0), -11);
        Check.due("12 byte 0", x.fault(), 0);
        Check.feed(x, "   x");
        Check.due("12 it is not of THE TEXT", x.fault(), 0);
        Check.due("11", x.term(2001), OUTSIDE);
        Check.due("12 still of the one before", x.fault(), 0);
        Check.due("11", x.term(0), -11);
        Check.due("12 of the latest", x.fault(), 3);
        Check.due("12 told again", x.fault(), 3);
        Check.due("11 an empty TEXT is a TERM", x.term(0), 0);
        Check.due("12 NONE", x.fault(), NONE);
    }

    private static void boundsOfNames() {
        for (int k = 0; k < NAMES.length; k++) {
            int at = 5 + NAMES[k].length();
            for (int v : new int[] {0, 1, MOST[k]}) {
                WharfPapers x = new WharfPapers();
                Check.due("11 let " + NAMES[k] + " " + v, Check.term(x, "let " + NAMES[k] + " " + v + ";", 3), 0);
                for (int what = 0; what < 9; what++) {
                    int atFirst = what == 0 ? 2 : what == 1 ? 1 : what == 3 ? 10 : 0;
                    Check.due("13 let " + NAMES[k] + " " + v + ": " + what, x.force(what, 3), what == k ? v : atFirst);
                    Check.due("13 the DAY before", x.force(what, 2), atFirst);
                }
            }
            good("let " + NAMES[k] + " " + "0".repeat(4 - String.valueOf(MOST[k]).length()) + MOST[k] + ";");
            bad("let " + NAMES[k] + " " + (MOST[k] + 1) + ";", 2, at);
            bad("let " + NAMES[k] + " 9999;", 2, at);
            bad("let " + NAMES[k] + " 10000;", 2, at);
            bad("let " + NAMES[k] + " 00000;", 2, at);
        }
    }

    private static void boundsOfDry() {
        for (int sort = 0; sort < 4; sort++) {
            for (int v : new int[] {0, 1, 999}) {
                WharfPapers x = new WharfPapers();
                Check.due("11 dry", Check.term(x, "dry " + sort + " by " + v + ";", 0), 0);
                for (int other = 0; other < 4; other++) {
                    Check.due("13 dry " + sort + " by " + v, x.force(5 + other, 0), other == sort ? v : 0);
                }
            }
            bad("dry " + sort + " by 1000;", 2, 9);
            bad("dry " + sort + " by 00999;", 2, 9);
        }
        good("dry 0003 by 0999;");
        bad("dry 4 by 1;", 2, 4);
        bad("dry 0004 by 1;", 2, 4);
        bad("dry 00003 by 1;", 2, 4);
        bad("dry 4 by 1000;", 2, 4);
    }

    private static void figuresOfNumbers() {
        String[] fine = {"7", "07", "007", "0007"};
        for (String figures : fine) {
            WharfPapers x = new WharfPapers();
            Check.due("11 " + figures, Check.term(x, "let bear " + figures + ";", 0), 0);
            Check.due("13 " + figures, x.force(3, 0), 7);
        }
        bad("let bear 00007;", 2, 9);
        bad("let bear 000007;", 2, 9);
        bad("let bear 18446744073709551617;", 2, 9);
        bad("let bear ;", 1, 9);
        good("strike 0;");
        good("strike 0000;");
        bad("strike 00000;", 2, 7);
        for (char figure = '0'; figure <= '9'; figure++) {
            WharfPapers x = new WharfPapers();
            Check.due("11 figure " + figure, Check.term(x, "let bear " + figure + ";", 0), 0);
            Check.due("13 figure " + figure, x.force(3, 0), figure - '0');
        }
    }

    private static void keysInAllOrders() {
        for (int mix = 0; mix < 256; mix++) {
            int[] keys = {mix & 3, mix >> 2 & 3, mix >> 4 & 3, mix >> 6};
            for (int many = 1; many <= 4; many++) {
                if (areUnlike(keys, many)) {
                    isRank(keys, many);
                }
            }
        }
    }

    private static boolean areUnlike(int[] keys, int many) {
        for (int a = 0; a < many; a++) {
            for (int b = 0; b < a; b++) {
                if (keys[a] == keys[b]) {
                    return false;
                }
            }
        }
        return true;
    }

    private static void isRank(int[] keys, int many) {
        StringBuilder text = new StringBuilder("rank ");
        for (int k = 0; k < many; k++) {
            text.append(k == 0 ? "" : ",").append(KEYS[keys[k]]);
        }
        WharfPapers x = new WharfPapers();
        Check.due("11 " + text, Check.term(x, text.append(';').toString(), 0), 0);
        Check.due("13 how many " + text, x.force(9, 0), many);
        for (int k = 0; k < 4; k++) {
            Check.due("13 " + text + " " + k, x.force(10 + k, 0), k < many ? keys[k] : NONE);
        }
    }

    private static void keysAgain() {
        for (String key : KEYS) {
            bad("rank " + key + "," + key + ";", 4, 6 + key.length());
            bad("rank " + key + " , " + key + ";", 4, 8 + key.length());
            bad("rank " + key + "," + key, 4, 6 + key.length());
            bad("rank rent,bank,seller,owner," + key + ";", 4, 28);
            good("rank " + key + ";rank " + key + ";");
        }
        bad("rank bank,rent,bank;", 4, 15);
        bad("rank bank,rent,owner,bank;", 4, 21);
        bad("rank bank,rent,owner,rent;", 4, 21);
        bad("rank bank,rent,owner,owner;", 4, 21);
        bad("rank rent,bank,seller,owner,", 1, 28);
        bad("rank rent,bank,seller,owner,let;", 1, 28);
    }

    private static void wordsOutOfPlace() {
        for (String word : WORDS) {
            isWord(word, List.of("let", "dry", "rank", "strike"), "", "");
            isWord(word, List.of("let", "dry", "rank", "strike"), "let rent 1;", "");
            isWord(word, List.of(NAMES), "let ", " 1;");
            isWord(word, List.of("by"), "dry 1 ", " 1;");
            isWord(word, List.of(KEYS), "rank ", ";");
            isWord(word, List.of("bank", "seller", "owner"), "rank rent,", ";");
            isWord(word, List.of(), "let rent ", ";");
            isWord(word, List.of(), "dry ", " by 1;");
            isWord(word, List.of(), "dry 1 by ", ";");
            isWord(word, List.of(), "strike ", ";");
            isWord(word, List.of(), "let rent 1 ", ";");
            isWord(word, List.of(), "rank rent ", ";");
            isWord(word, List.of(), "strike 0 ", ";");
            isWord(word, List.of(), "dry 1 by 1 ", ";");
        }
    }

    /** A head of a clause is fine when it stands there: what it lacks is missing at the end. */
    private static void isWord(String word, List<String> fitting, String ahead, String behind) {
        String text = ahead + word + behind;
        if (!fitting.contains(word)) {
            boolean isAgain = ahead.equals("rank rent,") && word.equals("rent");
            bad(text, isAgain ? 4 : 1, ahead.length());
            bad(text.substring(0, ahead.length() + word.length()), isAgain ? 4 : 1, ahead.length());
        } else if (behind.isEmpty()) {
            bad(text, 1, text.length());
        } else {
            good(text);
        }
        bad(ahead + "x" + word + behind, 1, ahead.length());
        bad(ahead + word + "x" + behind, 1, ahead.length());
        bad(ahead + word.substring(1) + behind, 1, ahead.length());
    }

    private static void everyByteInEveryGap() {
        for (int b = 0; b < 256; b++) {
            char sign = (char) b;
            boolean isBlank = b == 32;
            boolean isLetter = b >= 'a' && b <= 'z';
            boolean isFigure = b >= '0' && b <= '9';
            is(sign + "let rent 5;", isBlank ? 0 : 1, isBlank ? NONE : 0);
            is("let" + sign + "rent 5;", isBlank ? 0 : 1, isBlank ? NONE : isLetter ? 0 : 3);
            is("let rent" + sign + "5;", isBlank || isFigure ? 0 : 1, isBlank || isFigure ? NONE : isLetter ? 4 : 8);
            is("let rent 5" + sign + ";", isBlank || isFigure ? 0 : 1, isBlank || isFigure ? NONE : b == ';' ? 11 : 10);
            is("let rent 5" + sign, b == ';' ? 0 : 1, b == ';' ? NONE : isBlank || isFigure ? 11 : 10);
            is("let rent 5;" + sign, isBlank ? 0 : 1, isBlank ? NONE : 11);
            is("rank rent" + sign + "bank;", b == ',' ? 0 : 1, b == ',' ? NONE : isLetter ? 5 : isBlank || b == ';' ? 10 : 9);
            boolean isFar = isFigure && b > '3';
            is("dry " + sign + " by 1;", isFar ? 2 : isFigure ? 0 : 1, isFar ? 4 : isFigure ? NONE : isBlank ? 6 : 4);
            is("strike " + sign + ";", b == '0' ? 0 : isFigure ? 3 : 1, b == '0' ? NONE : isBlank ? 8 : 7);
        }
    }

    /** At each byte the text may end: the FAULT is at a word that is cut, or at the end. */
    private static void theEndAtEveryByte() {
        cutAt("let bear 5;", 0, 0, 0, 3, 4, 4, 4, 4, 8, 9, 10);
        cutAt("dry 1 by 20;", 0, 0, 0, 3, 4, 5, 6, 6, 8, 9, 10, 11);
        cutAt("rank bank,rent;", 0, 0, 0, 0, 4, 5, 5, 5, 5, 9, 10, 10, 10, 10, 14);
        cutAt("strike 0;", 0, 0, 0, 0, 0, 0, 6, 7, 8);
    }

    private static void cutAt(String text, int... at) {
        for (int length = 1; length < text.length(); length++) {
            bad(text.substring(0, length), 1, at[length]);
            bad("let rent 1;" + text.substring(0, length), 1, 11 + at[length]);
            boolean isCutWord = at[length] < length;
            bad(text.substring(0, length) + "  ", 1, isCutWord ? at[length] : length + 2);
        }
        good(text);
    }

    private static void wordsAndNumbersSideBySide() {
        good("let bear5;");
        good("dry1by2;");
        good("dry 1by 2;");
        good("dry 1 by2;");
        good("strike0;");
        good("let bear 5;let bear 5;");
        good("let bear 5;dry1by1;rank rent;strike0;");
        bad("letbear 5;", 1, 0);
        bad("rankrent;", 1, 0);
        bad("let bear 5 5;", 1, 11);
        bad("dry 1 1 by 2;", 1, 6);
        bad("dry 1 1000;", 1, 6);
        bad("dry 1 12345;", 1, 6);
        bad("dry by 1;", 1, 4);
        bad("rank rent bank;", 1, 10);
        bad("let let bear 5;", 1, 4);
        bad("5 let bear 5;", 1, 0);
    }

    private static void blanksWithinWords() {
        good(" let  bear   5 ;  ");
        good(" dry 1  by  1 ; rank  rent , bank , owner ; strike  0 ; ");
        bad("l et bear 5;", 1, 0);
        bad("let be ar 5;", 1, 4);
        bad("let bear 5 0;", 1, 11);
        bad("dry 1 b y 1;", 1, 6);
        bad("rank ba nk;", 1, 5);
        bad("let\nbear 5;", 1, 3);
        bad("let bear\t5;", 1, 8);
        bad("let bear\u00a05;", 1, 8);
        bad("LET bear 5;", 1, 0);
        bad("let BEAR 5;", 1, 4);
        bad("rank Rent;", 1, 5);
        bad("dry 1 By 1;", 1, 6);
    }

    private static void strikesOfTermsThatThereAre() {
        WharfPapers x = new WharfPapers();
        for (int t = 0; t < 7; t++) {
            Check.due("11 not itself", Check.term(x, "strike " + t + ";", 0), -13);
            Check.due("12 at its first figure", x.fault(), 7);
            Check.due("11 none behind it", Check.term(x, "strike 000" + (t + 1) + ";", 0), -13);
            Check.due("11 none there is not", Check.term(x, "strike 9999;", 0), -13);
            Check.due("11 five figures", Check.term(x, "strike 00000;", 0), -12);
            Check.due("11 TERM " + t, Check.term(x, t == 0 ? "let rent 5;" : "strike " + (t - 1) + ";", 2000), t);
        }
        Check.due("11 the seventh, and the first", Check.term(x, "strike 6;strike 0;", 2000), 7);
    }

    private static void theFirstByteThatHasOne() {
        bad("let rent 100;strike 9;", 2, 9);
        bad("strike 9;let rent 100;", 3, 7);
        bad("rank rent,rent;strike 9;", 4, 10);
        bad("strike 9;rank rent,rent;", 3, 7);
        bad("let rent 100 100", 2, 9);
        bad("strike 12345 5", 2, 7);
        bad("strike 9 x", 3, 7);
        bad("rank rent,rentx;", 1, 10);
        bad("rank rent,rent rent;", 4, 10);
        bad("dry 9 by 9999;", 2, 4);
        bad("x let rent 100;", 1, 0);
        bad("let 100;", 1, 4);
        bad("12345;", 1, 0);
    }

    private static void elevenClauses() {
        String ten = "rank rent;".repeat(10);
        good(ten);
        good(ten + blanks(60));
        for (String head : new String[] {"let", "dry", "rank", "strike"}) {
            bad(ten + head, 5, 100);
            bad(ten + "  " + head, 5, 102);
            bad(ten + head + " 99999;", 5, 100);
            bad(ten + head + "x", 1, 100);
        }
        bad(ten + "let rent 1;", 5, 100);
        bad(ten + "let rent 1;let rent 1;", 5, 100);
        bad(ten + "strike 9;", 5, 100);
        bad(ten + ";", 1, 100);
        bad(ten + "1", 1, 100);
        bad(ten + "by", 1, 100);
        bad("rank rent;".repeat(9) + "rank rent,rent;let", 4, 100);
        bad("rank rent;".repeat(9) + "rank rent", 1, 99);
        WharfPapers x = new WharfPapers();
        Check.due("11 the tenth counts", Check.term(x, "let rent 1;".repeat(9) + "let rent 77;", 0), 0);
        Check.due("13 the tenth rules", x.force(0, 0), 77);
    }

    private static void termsInForceFromADayOn() {
        for (int day : new int[] {0, 1, 1999, 2000}) {
            WharfPapers x = new WharfPapers();
            Check.due("11 from " + day + " on", Check.term(x, "let rent 50;", day), 0);
            if (day > 0) {
                Check.due("13 not on the DAY before", x.force(0, day - 1), 2);
                Check.due("13 nor on the first", x.force(0, 0), 2);
            }
            Check.due("13 on that DAY", x.force(0, day), 50);
            Check.due("13 and on the last", x.force(0, 2000), 50);
            Check.due("9 whatever NOW is", x.count(0), 0);
        }
    }

    private static void theLastRules() {
        WharfPapers x = new WharfPapers();
        Check.term(x, "let rent 30;let bear 30;", 30);
        Check.term(x, "let rent 10;let stop 1;let bear 11;", 10);
        Check.term(x, "let rent 20;", 20);
        Check.term(x, "let rent 31;", 30);
        Check.term(x, "let rent 11;rank owner;rank bank,seller;", 10);
        int[][] due = {{9, 2}, {10, 11}, {19, 11}, {20, 20}, {29, 20}, {30, 31}, {2000, 31}};
        for (int[] row : due) {
            Check.due("13 rent on " + row[0], x.force(0, row[0]), row[1]);
        }
        Check.due("13 the first has the last DAY", x.force(3, 30), 30);
        Check.due("13 the DAY before", x.force(3, 29), 11);
        Check.due("13 and another", x.force(2, 30), 1);
        Check.due("13 of rank the last, whole", x.force(9, 10), 2);
        Check.due("13 its first", x.force(10, 10), 1);
        Check.due("13 its second", x.force(11, 10), 2);
        Check.due("13 no third", x.force(12, 10), NONE);
        // what was asked before a TERM came is not what holds behind it
        Check.due("13 asked", x.force(0, 40), 31);
        Check.term(x, "let rent 40;", 40);
        Check.due("13 asked again", x.force(0, 40), 40);
        Check.due("13 in one TERM the last", Check.term(x, "dry 2 by 5;dry 3 by 6;dry 2 by 7;", 50), 6);
        Check.due("13 of one SORT", x.force(7, 50), 7);
        Check.due("13 of another", x.force(8, 50), 6);
    }

    private static void strikesFromADayOn() {
        WharfPapers x = new WharfPapers();
        Check.term(x, "let rent 10;let bear 5;dry 0 by 3;rank bank;", 5);
        Check.term(x, "strike 0;let stop 1;", 8);
        for (int day = 4; day <= 9; day++) {
            boolean is = day >= 5 && day < 8;
            Check.due("13 rent on " + day, x.force(0, day), is ? 10 : 2);
            Check.due("13 bear on " + day, x.force(3, day), is ? 5 : 10);
            Check.due("13 dry on " + day, x.force(5, day), is ? 3 : 0);
            Check.due("13 rank on " + day, x.force(9, day), is ? 1 : 4);
            Check.due("13 stop on " + day, x.force(2, day), day >= 8 ? 1 : 0);
        }
        WharfPapers y = new WharfPapers();
        Check.term(y, "let rent 10;", 8);
        Check.term(y, "strike 0;let rent 20;", 5);
        Check.due("13 what is struck ahead of its DAY never holds", y.force(0, 8), 20);
        Check.due("13 nor later", y.force(0, 2000), 20);
        Check.due("13 the one that strikes holds", y.force(0, 5), 20);
        WharfPapers z = new WharfPapers();
        Check.term(z, "let rent 10;", 8);
        Check.term(z, "strike 0;let rent 20;", 8);
        Check.due("13 on one DAY", z.force(0, 8), 20);
        Check.due("13 the DAY before", z.force(0, 7), 2);
    }

    private static void strikesOfStrikes() {
        WharfPapers x = new WharfPapers();
        Check.term(x, "let rent 10;", 0);
        Check.term(x, "strike 0;", 10);
        Check.term(x, "strike 1;", 20);
        Check.term(x, "strike 2;", 30);
        int[][] due = {{0, 10}, {9, 10}, {10, 2}, {19, 2}, {20, 10}, {29, 10}, {30, 2}, {2000, 2}};
        for (int[] row : due) {
            Check.due("13 rent on " + row[0], x.force(0, row[0]), row[1]);
        }
        // the DAYS the other way round: a strike counts from its own DAY on
        WharfPapers y = new WharfPapers();
        Check.term(y, "let rent 10;", 0);
        Check.term(y, "strike 0;", 30);
        Check.term(y, "strike 1;", 20);
        Check.term(y, "strike 2;", 40);
        int[][] other = {{0, 10}, {19, 10}, {20, 10}, {30, 10}, {39, 10}, {40, 2}};
        for (int[] row : other) {
            Check.due("13 rent on " + row[0] + " the other way", y.force(0, row[0]), row[1]);
        }
    }

    private static void twoStrikesOfOne() {
        WharfPapers x = new WharfPapers();
        Check.term(x, "let rent 10;", 0);
        Check.term(x, "strike 0;", 10);
        Check.term(x, "strike 0;", 20);
        Check.term(x, "strike 1;", 15);
        Check.term(x, "strike 2;", 25);
        int[][] due = {{9, 10}, {10, 2}, {14, 2}, {15, 10}, {19, 10}, {20, 2}, {24, 2}, {25, 10}};
        for (int[] row : due) {
            Check.due("13 rent on " + row[0], x.force(0, row[0]), row[1]);
        }
    }
}
