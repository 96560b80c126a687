import java.util.ArrayList;
import java.util.List;

/**
 * The document once more, in another way: trees, functions for what waits, and every row gone
 * through. It shares nothing with the class, so that the two can be held against each other.
 */
final class Model {
    static final int NONE = -6, UNKNOWN = -1, OUTSIDE = -2, FULL = -4, NO = -5;

    private record Node(char sign, int hand, List<Node> parts) { }

    private static final class Fault extends RuntimeException {
        private static final long serialVersionUID = 1L;
        final int place;

        Fault(int place) {
            this.place = place;
        }
    }

    private static final class Parser {
        final String signs;
        final boolean goes;
        int at = 0;

        Parser(String signs, boolean goes) {
            this.signs = signs;
            this.goes = goes;
        }

        Node whole() {
            Node node = part(0);
            if (at < signs.length()) {
                throw new Fault(at);
            }
            return node;
        }

        private char next() {
            if (at == signs.length()) {
                throw new Fault(at);
            }
            return signs.charAt(at);
        }

        private Node part(int within) {
            char sign = next();
            int own = "01234567x".indexOf(sign) >= 0 ? 0 : "pqr@".indexOf(sign) >= 0 ? 1
                : goes && sign == 'k' ? 1 : "+-*m".indexOf(sign) >= 0 ? 2 : sign == '?' ? 3 : -1;
            if (own < 0 || own > 0 && within == 9) {
                throw new Fault(at);
            }
            at++;
            int hand = -1;
            if (sign == '@') {
                hand = "0123".indexOf(next());
                if (hand < 0) {
                    throw new Fault(at);
                }
                at++;
            }
            List<Node> parts = new ArrayList<>();
            for (int n = 0; n < own; n++) {
                parts.add(part(within + 1));
            }
            return new Node(sign, hand, parts);
        }
    }

    /** What waits between two hands, for a value; the hands around it come along. */
    private interface Rest {
        void with(int v, Around around);
    }

    private record Around(int hand, Rest rest, Around next) { }

    private interface Kept {
        void with(int v, Rest rest, Around around);
    }

    private static final class Over extends RuntimeException {
        private static final long serialVersionUID = 1L;

        Over() {
            super(null, null, false, false);
        }
    }

    String pad = "";
    final String[] texts = {"0", "0", "0", "0"};
    final String[][] clauses = new String[4][4];
    final List<Integer> replies = new ArrayList<>();

    private final Node[] textNodes = new Node[4];
    private final Node[][] clauseNodes = new Node[4][4];
    int end, steps, used, deed, value, goings;
    final List<Integer> answers = new ArrayList<>();
    private List<Integer> row;

    Model() {
        for (int i = 0; i < 4; i++) {
            textNodes[i] = new Parser("0", false).whole();
        }
    }

    private static boolean in(int v, int from, int to) {
        return v >= from && v <= to;
    }

    int say(int sign) {
        if (!in(sign, 33, 126)) {
            return OUTSIDE;
        }
        if (pad.length() == 40) {
            return FULL;
        }
        pad += (char) sign;
        return pad.length();
    }

    int wipe() {
        int n = pad.length();
        pad = "";
        return n;
    }

    int fault(int how) {
        if (!in(how, 0, 1)) {
            return OUTSIDE;
        }
        try {
            new Parser(pad, how == 1).whole();
            return NONE;
        } catch (Fault f) {
            return f.place;
        }
    }

    int text(int text) {
        if (!in(text, 0, 3)) {
            return UNKNOWN;
        }
        if (fault(0) != NONE) {
            return NO;
        }
        texts[text] = pad;
        textNodes[text] = new Parser(pad, false).whole();
        return wipe();
    }

    int clause(int hand, int deed) {
        if (!in(hand, 0, 3) || !in(deed, 0, 3)) {
            return UNKNOWN;
        }
        if (fault(deed == 3 ? 0 : 1) != NONE) {
            return NO;
        }
        clauses[hand][deed] = pad;
        clauseNodes[hand][deed] = new Parser(pad, true).whole();
        return wipe();
    }

    int drop(int hand, int deed) {
        if (!in(hand, 0, 3) || !in(deed, 0, 3)) {
            return UNKNOWN;
        }
        if (clauses[hand][deed] == null) {
            return NO;
        }
        int n = clauses[hand][deed].length();
        clauses[hand][deed] = null;
        clauseNodes[hand][deed] = null;
        return n;
    }

    int has(int hand) {
        if (!in(hand, 0, 3)) {
            return UNKNOWN;
        }
        int bits = 0;
        for (int d = 0; d < 4; d++) {
            bits |= clauses[hand][d] == null ? 0 : 1 << d;
        }
        return bits;
    }

    int reply(int v) {
        if (!in(v, 0, 7)) {
            return OUTSIDE;
        }
        if (replies.size() == 8) {
            return FULL;
        }
        replies.add(v);
        return replies.size();
    }

    int mute() {
        int n = replies.size();
        replies.clear();
        return n;
    }

    int run(int text, int argument, int what) {
        if (!in(text, 0, 3)) {
            return UNKNOWN;
        }
        if (!in(argument, 0, 7) || !in(what, 0, 6)) {
            return OUTSIDE;
        }
        go(text, argument, replies);
        int[] all = {end, steps, used, deed, value, goings, answers.size()};
        return all[what];
    }

    int who(int text, int argument, int i) {
        if (!in(text, 0, 3)) {
            return UNKNOWN;
        }
        if (!in(argument, 0, 7) || !in(i, 0, 199)) {
            return OUTSIDE;
        }
        go(text, argument, replies);
        return i < answers.size() ? answers.get(i) : NONE;
    }

    private void go(int text, int argument, List<Integer> given) {
        row = given;
        steps = 0;
        used = 0;
        goings = 0;
        deed = NONE;
        value = NONE;
        answers.clear();
        try {
            work(textNodes[text], argument, null, (v, around) -> over(v), null);
        } catch (Over done) {
            return;
        }
        throw new IllegalStateException("a run without an end");
    }

    private void over(int how) {
        end = how;
        throw new Over();
    }

    private void work(Node n, int x, Kept kept, Rest rest, Around around) {
        if (steps == 200) {
            over(9);
        }
        steps++;
        Node first = n.parts.isEmpty() ? null : n.parts.get(0);
        switch (n.sign) {
            case 'x' -> rest.with(x, around);
            case '+', '-', '*', 'm' -> work(first, x, kept, (a, there) ->
                work(n.parts.get(1), x, kept, (b, then) -> rest.with(act(n.sign, a, b), then), there), around);
            case '?' -> work(first, x, kept, (a, there) ->
                work(n.parts.get(a == 0 ? 1 : 2), x, kept, rest, there), around);
            case 'p', 'q', 'r' -> work(first, x, kept, (a, there) -> ask(n.sign - 'p', a, rest, there), around);
            case '@' -> work(first, x, kept, this::leave, new Around(n.hand, rest, around));
            case 'k' -> work(first, x, kept, (a, there) -> {
                if (goings == 40) {
                    over(9);
                }
                goings++;
                kept.with(a, rest, there);
            }, around);
            default -> rest.with(n.sign - '0', around);
        }
    }

    private static int act(char sign, int a, int b) {
        int whole = sign == '+' ? a + b : sign == '-' ? a - b : sign == '*' ? a * b : a < b ? a : b;
        return Math.floorMod(whole, 8);
    }

    private void leave(int v, Around around) {
        Node back = clauseNodes[around.hand][3];
        if (back == null) {
            around.rest.with(v, around.next);
        } else {
            work(back, v, null, around.rest, around.next);
        }
    }

    private void ask(int d, int v, Rest rest, Around around) {
        List<Around> between = new ArrayList<>();
        Around hand = around;
        while (hand != null && clauseNodes[hand.hand][d] == null) {
            between.add(0, hand);
            hand = hand.next;
        }
        answers.add(100 * d + 10 * v + (hand == null ? 9 : hand.hand));
        if (hand != null) {
            int h = hand.hand;
            Kept kept = (answer, outerRest, outer) -> {
                Around again = new Around(h, outerRest, outer);
                for (Around b : between) {
                    again = new Around(b.hand, b.rest, again);
                }
                rest.with(answer, again);
            };
            work(clauseNodes[h][d], v, kept, hand.rest, hand.next);
        } else if (used < row.size()) {
            rest.with(row.get(used++), around);
        } else {
            deed = d;
            value = v;
            over(8);
        }
    }

    int may(int hand, int which) {
        if (!in(hand, -1, 3) || !in(which, 0, 3) || hand >= 0 && clauses[hand][which] == null) {
            return UNKNOWN;
        }
        int[][] guess = new int[5][4];
        int[] within = new int[4];
        for (int n = 0; n < 200; n++) {
            int[][] better = new int[5][4];
            int[] seen = new int[4];
            for (int h = 0; h < 5; h++) {
                for (int d = 0; d < 4; d++) {
                    Node node = h == 4 ? textNodes[d] : clauseNodes[h][d];
                    better[h][d] = node == null ? 0 : mayOf(node, h, guess, within, seen);
                }
            }
            guess = better;
            within = seen;
        }
        return guess[hand < 0 ? 4 : hand][which];
    }

    private int mayOf(Node n, int home, int[][] guess, int[] within, int[] seen) {
        int bits = 0;
        for (Node part : n.parts) {
            bits |= mayOf(part, home, guess, within, seen);
        }
        if ("pqr".indexOf(n.sign) >= 0) {
            bits |= 1 << n.sign - 'p';
        }
        if (n.sign == 'k') {
            bits |= within[home];
        }
        if (n.sign == '@') {
            int past = guess[n.hand][3];
            for (int d = 0; d < 3; d++) {
                if ((bits >> d & 1) == 1) {
                    past |= clauses[n.hand][d] == null ? 1 << d : guess[n.hand][d];
                }
            }
            bits = past;
            seen[n.hand] |= bits;
        }
        return bits;
    }

    int often(int hand, int deed) {
        if (!in(hand, 0, 3) || !in(deed, 0, 3) || clauses[hand][deed] == null) {
            return UNKNOWN;
        }
        return Math.min(2, oftenOf(clauseNodes[hand][deed]));
    }

    private static int oftenOf(Node n) {
        int sum = 0;
        for (Node part : n.parts) {
            sum += oftenOf(part);
        }
        return switch (n.sign) {
            case '?' -> oftenOf(n.parts.get(0))
                + Math.max(oftenOf(n.parts.get(1)), oftenOf(n.parts.get(2)));
            case 'k' -> sum + 1;
            case '@' -> sum > 0 ? 2 : 0;
            default -> sum;
        };
    }

    /** All rows of a length, the first by replies first. */
    private static List<List<Integer>> rows(int length, int c) {
        List<List<Integer>> rows = new ArrayList<>();
        rows.add(List.of());
        for (int n = 0; n < length; n++) {
            List<List<Integer>> longer = new ArrayList<>();
            for (List<Integer> r : rows) {
                for (int v = 0; v <= c; v++) {
                    List<Integer> one = new ArrayList<>(r);
                    one.add(v);
                    longer.add(one);
                }
            }
            rows = longer;
        }
        return rows;
    }

    int all(int text, int argument, int length, int c) {
        if (!in(text, 0, 3)) {
            return UNKNOWN;
        }
        if (!in(argument, 0, 7) || !in(length, 0, 4) || !in(c, 0, 2)) {
            return OUTSIDE;
        }
        int bits = 0;
        for (List<Integer> r : rows(length, c)) {
            go(text, argument, r);
            bits |= 1 << end;
        }
        return bits;
    }

    int row(int text, int argument, int length, int c, int sought, int i) {
        if (!in(text, 0, 3)) {
            return UNKNOWN;
        }
        if (!in(argument, 0, 7) || !in(length, 0, 4) || !in(c, 0, 2) || !in(sought, 0, 9)) {
            return OUTSIDE;
        }
        List<Integer> best = null;
        for (List<Integer> r : rows(length, c)) {
            go(text, argument, r);
            if (end == sought && (best == null || used < best.size())) {
                best = r.subList(0, used);
            }
        }
        return best == null ? NO : tell(best, i);
    }

    private static int tell(List<Integer> r, int i) {
        return i == -1 ? r.size() : in(i, 0, r.size() - 1) ? r.get(i) : NONE;
    }

    int apart(int text, int argument, int other, int with, int length, int c, int i) {
        if (!in(text, 0, 3) || !in(other, 0, 3)) {
            return UNKNOWN;
        }
        if (!in(argument, 0, 7) || !in(with, 0, 7) || !in(length, 0, 4) || !in(c, 0, 2)) {
            return OUTSIDE;
        }
        for (int n = 0; n <= length; n++) {
            for (List<Integer> r : rows(n, c)) {
                go(text, argument, r);
                List<Integer> one = List.of(end, deed, value);
                go(other, with, r);
                if (!one.equals(List.of(end, deed, value))) {
                    return tell(r, i);
                }
            }
        }
        return NONE;
    }

    int told(int what) {
        return what == 0 ? pad.length() : what == 1 ? replies.size()
            : in(what, 10, 13) ? texts[what - 10].length() : OUTSIDE;
    }
}
