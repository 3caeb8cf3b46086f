import java.nio.charset.StandardCharsets;

/** What all tests share: counting answers that are not as due, feeding texts, and objects to begin with. */
final class Check {
    private static int asked = 0;
    private static int wrong = 0;

    private Check() {
    }

    static void due(String call, long got, long want) {
        asked++;
        if (got != want) {
            wrong++;
            System.out.println(call + " answered " + got + ", due is " + want);
        }
    }

    static void holds(String what, boolean is) {
        asked++;
        if (!is) {
            wrong++;
            System.out.println("does not hold: " + what);
        }
    }

    static int wrongs() {
        return wrong;
    }

    static void feed(WharfPapers x, String text) {
        byte[] bytes = text.getBytes(StandardCharsets.ISO_8859_1);
        for (int from = 0; from < bytes.length; from += 8) {
            int n = Math.min(8, bytes.length - from);
            long packed = 0;
            for (int k = 0; k < n; k++) {
                packed = packed << 8 | bytes[from + k] & 255;
            }
            due("feed of \"" + text + "\"", x.feed(n, packed), from + n);
        }
    }

    /** Feeds a text and makes it a TERM: what term() answers. */
    static int term(WharfPapers x, String text, int day) {
        feed(x, text);
        return x.term(day);
    }

    /** LOTS of so many casks, all of SORT 0 and on FLOOR 0. */
    static WharfPapers withLots(int... casks) {
        WharfPapers x = new WharfPapers();
        for (int n : casks) {
            x.lot(0, n, 10, 0, 0);
        }
        return x;
    }

    /** A new one, but NOW is that DAY. */
    static WharfPapers onDay(int day) {
        WharfPapers x = new WharfPapers();
        for (int left = day; left > 0; left -= Math.min(left, 999)) {
            x.go(Math.min(left, 999));
        }
        return x;
    }

    static void end() {
        System.out.println(wrong == 0 ? asked + " answers are as due" : wrong + " of " + asked + " answers are not as due");
        if (wrong != 0 || asked == 0) {
            System.exit(1);
        }
    }
}
