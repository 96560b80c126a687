/** Promises 13 and 14: what is told without a run. */
public final class WrittenTest {
    private static final int UNKNOWN = DeedHands.UNKNOWN;
    private static final Check check = new Check();

    public static void main(String[] args) {
        mayWithoutHands();
        mayPastHands();
        mayGoOn();
        mayIsLeast();
        often();
        wrong();
        check.end("WrittenTest");
    }

    private static void may(String signs, int want) {
        DeedHands x = new DeedHands();
        check.text(x, 2, signs);
        check.due("may of " + signs, x.may(-1, 2), want);
    }

    private static void mayWithoutHands() {
        may("3", 0);
        may("x", 0);
        may("px", 1);
        may("q1", 2);
        may("rq1", 6);
        may("+p0r1", 5);
        may("-0r1", 4);
        may("*q01", 2);
        may("mq0r0", 6);
        may("?p0q1r2", 7);
        may("?01r2", 4);
        may("?0q12", 2);
        may("@0p1", 1);
    }

    private static void mayPastHands() {
        DeedHands x = new DeedHands();
        check.text(x, 0, "@0p1");
        check.text(x, 1, "@01");
        check.clause(x, 0, 1, "r0");
        check.due("a clause for what is not asked", x.may(-1, 0), 1);
        check.due("of the clause", x.may(0, 1), 4);
        check.clause(x, 0, 0, "q0");
        check.due("the clause instead of the deed", x.may(-1, 0), 2);
        check.due("not within the hand", x.may(-1, 1), 0);
        check.clause(x, 0, 3, "p0");
        check.due("back, too", x.may(-1, 0), 3);
        check.due("back always", x.may(-1, 1), 1);
        check.due("of back", x.may(0, 3), 1);
        check.due("drop", x.drop(0, 0), 2);
        check.due("without the clause", x.may(-1, 0), 1);
        check.text(x, 0, "+@21q0");
        check.clause(x, 2, 1, "r0");
        check.due("what stands beside a hand is not within it", x.may(-1, 0), 2);
        check.text(x, 0, "@1@0r0");
        check.clause(x, 1, 0, "2");
        check.due("back's deed comes past the next hand", x.may(-1, 0), 4);
        check.due("drop", x.drop(1, 0), 1);
        check.due("or not", x.may(-1, 0), 5);
    }

    private static void mayGoOn() {
        DeedHands x = new DeedHands();
        check.clause(x, 0, 0, "kx");
        check.text(x, 0, "@0+p1q2");
        check.due("what goes on asks", x.may(0, 0), 2);
        check.due("and the text", x.may(-1, 0), 2);
        check.text(x, 0, "@0p1");
        check.due("no more", x.may(0, 0), 0);
        check.text(x, 3, "@0r1");
        check.due("any text within the hand", x.may(0, 0), 4);
        check.due("so this one, too", x.may(-1, 0), 4);
        check.clause(x, 3, 1, "+1@0q0");
        check.due("in a clause, too", x.may(0, 0), 6);
        check.clause(x, 3, 3, "@0p0");
        check.clause(x, 0, 0, "@1kx");
        check.clause(x, 1, 2, "0");
        check.due("a k within another hand is still its clause's", x.may(0, 0), 2);
        check.clause(x, 0, 0, "kp0");
        check.due("of k its text", x.may(0, 0), 7);
        check.due("drop", x.drop(3, 1), 6);
        check.text(x, 3, "@1r1");
        check.due("another hand's text is none", x.may(0, 0), 1);
        check.clause(x, 2, 3, "@0q0");
        check.due("in a clause for back, too", x.may(0, 0), 3);
        check.due("a signs' pad is not written", x.say('@'), 1);
    }

    private static void mayIsLeast() {
        DeedHands x = new DeedHands();
        check.clause(x, 0, 0, "@0px");
        check.text(x, 0, "@0p0");
        check.due("round and round", x.may(-1, 0), 0);
        check.due("the clause", x.may(0, 0), 0);
        check.clause(x, 1, 0, "@2q0");
        check.clause(x, 2, 1, "@3r0");
        check.clause(x, 3, 2, "@1p0");
        check.text(x, 1, "@1p0");
        check.due("round three hands", x.may(-1, 1), 0);
        check.clause(x, 3, 2, "+q0@1p0");
        check.due("and one beyond", x.may(-1, 1), 2);
        check.due("from each of them", x.may(1, 0), 2);
    }

    private static void oftenOf(String signs, int want) {
        DeedHands x = new DeedHands();
        check.clause(x, 3, 2, signs);
        check.due("often of " + signs, x.often(3, 2), want);
    }

    private static void often() {
        oftenOf("0", 0);
        oftenOf("x", 0);
        oftenOf("+01", 0);
        oftenOf("kx", 1);
        oftenOf("kkx", 2);
        oftenOf("kkkx", 2);
        oftenOf("+kx1", 1);
        oftenOf("-1kx", 1);
        oftenOf("*kxkx", 2);
        oftenOf("mkxkx", 2);
        oftenOf("?kx01", 1);
        oftenOf("?0kxkx", 1);
        oftenOf("?0kx1", 1);
        oftenOf("?01kx", 1);
        oftenOf("?0kxkkx", 2);
        oftenOf("?0kkxkx", 2);
        oftenOf("?kxkx0", 2);
        oftenOf("?kx0kx", 2);
        oftenOf("p0", 0);
        oftenOf("pkx", 1);
        oftenOf("rk+kx1", 2);
        oftenOf("@1x", 0);
        oftenOf("@1kx", 2);
        oftenOf("@1?0kx1", 2);
        oftenOf("-@1xkx", 1);
        oftenOf("?0@1kxkx", 2);
        DeedHands x = new DeedHands();
        check.clause(x, 0, 3, "x");
        check.due("often of back", x.often(0, 3), 0);
        check.clause(x, 0, 0, "kx");
        check.clause(x, 0, 1, "kkx");
        check.due("each clause its own", x.often(0, 0) * 10 + x.often(0, 1), 12);
    }

    private static void wrong() {
        DeedHands x = new DeedHands();
        check.clause(x, 1, 1, "x");
        int[][] none = {{-2, 0}, {4, 0}, {-1, 4}, {-1, -1}, {0, 0}, {1, 0}, {1, 4}, {1, -1}, {1, 3}, {2, 1},
            {Integer.MIN_VALUE, 0}, {Integer.MAX_VALUE, 0}, {1, Integer.MIN_VALUE}, {1, Integer.MAX_VALUE},
            {-1, Integer.MIN_VALUE}, {-1, Integer.MAX_VALUE}};
        for (int[] pair : none) {
            check.due("may(" + pair[0] + ", " + pair[1] + ")", x.may(pair[0], pair[1]), UNKNOWN);
            check.due("often(" + pair[0] + ", " + pair[1] + ")", x.often(pair[0], pair[1]), UNKNOWN);
        }
        check.due("often(-1, 0)", x.often(-1, 0), UNKNOWN);
        check.due("may(1, 1)", x.may(1, 1), 0);
        check.due("often(1, 1)", x.often(1, 1), 0);
        check.due("drop", x.drop(1, 1), 1);
        check.due("may when it is dropped", x.may(1, 1), UNKNOWN);
        check.due("often when it is dropped", x.often(1, 1), UNKNOWN);
    }
}
