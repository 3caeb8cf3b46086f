import java.util.ArrayList;
import java.util.List;

/**
 * A text of TERMS read in another way than the program's: first cut into pieces, then every clause
 * is held against its pattern, piece by piece.
 */
final class ModelText {
    final List<Model.Clause> clauses = new ArrayList<>();
    int fault;
    int faultAt = -1;

    private record Piece(String text, int at) { }

    private final List<Piece> pieces = new ArrayList<>();
    private final int terms;

    ModelText(String text, int terms) {
        this.terms = terms;
        cut(text);
        int next = 0;
        while (fault == 0 && !pieces.get(next).text.isEmpty()) {
            next = clause(next);
        }
    }

    private static char kind(char c) {
        return c >= 'a' && c <= 'z' ? 'a' : c >= '0' && c <= '9' ? '0' : c == ' ' ? ' ' : 'x';
    }

    /** The last piece is the end: no text, at the text's length. */
    private void cut(String text) {
        int from = 0;
        for (int k = 1; k <= text.length(); k++) {
            boolean goesOn = k < text.length() && kind(text.charAt(k)) == kind(text.charAt(k - 1)) && kind(text.charAt(k)) != 'x';
            if (!goesOn) {
                if (text.charAt(from) != ' ') pieces.add(new Piece(text.substring(from, k), from));
                from = k;
            }
        }
        pieces.add(new Piece("", text.length()));
    }

    private int fail(int number, int piece) {
        fault = number;
        faultAt = pieces.get(piece).at;
        return piece;
    }

    private int clause(int first) {
        String head = pieces.get(first).text;
        if (!List.of("let", "dry", "rank", "strike").contains(head)) return fail(1, first);
        if (clauses.size() == 10) return fail(5, first);
        if (head.equals("rank")) return rank(first);
        String what = head;
        int at = first + 1;
        int most = 9999;
        if (head.equals("let")) {
            what = pieces.get(at).text;
            int which = List.of("rent", "title", "stop", "bear", "beyond").indexOf(what);
            if (which < 0) return fail(1, at);
            most = new int[] {99, 1, 1, 999, 1}[which];
            at++;
        }
        if (head.equals("dry")) {
            if (number(at, 3) < 0) return at;
            if (!pieces.get(at + 1).text.equals("by")) return fail(1, at + 1);
            what += number(at, 3);
            most = 999;
            at += 2;
        }
        int value = number(at, most);
        if (value < 0) return at;
        if (head.equals("strike") && value >= terms) return fail(3, at);
        if (!pieces.get(at + 1).text.equals(";")) return fail(1, at + 1);
        clauses.add(new Model.Clause(what, value, List.of()));
        return at + 2;
    }

    private int rank(int first) {
        List<Integer> keys = new ArrayList<>();
        for (int at = first + 1; ; at += 2) {
            int key = List.of("rent", "bank", "seller", "owner").indexOf(pieces.get(at).text);
            if (key < 0) return fail(1, at);
            if (keys.contains(key)) return fail(4, at);
            keys.add(key);
            String sign = pieces.get(at + 1).text;
            if (sign.equals(";")) {
                clauses.add(new Model.Clause("rank", 0, keys));
                return at + 2;
            }
            if (!sign.equals(",")) return fail(1, at + 1);
        }
    }

    private int number(int at, int most) {
        String figures = pieces.get(at).text;
        if (figures.isEmpty() || kind(figures.charAt(0)) != '0') {
            fail(1, at);
            return -1;
        }
        if (figures.length() > 4 || Integer.parseInt(figures) > most) {
            fail(2, at);
            return -1;
        }
        return Integer.parseInt(figures);
    }
}
