/** Promises 15 to 17: all rows of replies, the row to an end, apart. */
public final class RowsTest {
    private static final int NONE = DeedHands.NONE;
    private static final int[] NO_REPLY = {-2, -3, -1073741823, Integer.MIN_VALUE, 8, 199, Integer.MAX_VALUE};
    private static final Check check = new Check();

    public static void main(String[] args) {
        all();
        row();
        fewestReplies();
        spentRow();
        apart();
        apartByReplies();
        apartWhenSpent();
        wrong();
        check.end("RowsTest");
    }

    private static void all() {
        DeedHands x = new DeedHands();
        check.text(x, 0, "+p0q0");
        int[][] due = {{256, 256, 256}, {256, 256, 256}, {1, 7, 31}, {1, 7, 31}, {1, 7, 31}};
        for (int length = 0; length <= 4; length++) {
            for (int c = 0; c <= 2; c++) {
                check.due("all " + length + " " + c, x.all(0, 3, length, c), due[length][c]);
            }
        }
        check.due("all of a number", x.all(1, 0, 4, 2), 1);
        check.text(x, 1, "x");
        check.due("all of the argument", x.all(1, 7, 0, 0), 128);
        check.text(x, 2, "?p01p2");
        check.due("some ask again", x.all(2, 0, 1, 2), 258);
        check.due("none asks again", x.all(2, 0, 2, 2), 7);
        check.due("only the first way", x.all(2, 0, 2, 0), 2);
        check.text(x, 3, "+p0+p0+p0p0");
        check.due("four replies", x.all(3, 0, 4, 2), 255);
        check.due("four replies to one", x.all(3, 0, 4, 1), 31);
        check.text(x, 3, "mp0mp0mp0p0");
        check.due("the last row counts", x.all(3, 0, 4, 2), 7);
        x.reply(7);
        x.reply(7);
        check.due("the own replies are not used", x.all(2, 0, 0, 2), 256);
        check.due("and stay", x.told(1), 2);
        check.due("as they were", x.run(0, 0, 0), 6);
    }

    private static void rowDue(DeedHands x, int length, int c, int end, int... want) {
        check.due("replies to " + end, x.row(0, 0, length, c, end, -1), want.length);
        for (int i = 0; i < want.length; i++) {
            check.due("reply " + i + " to " + end, x.row(0, 0, length, c, end, i), want[i]);
        }
        for (int i = want.length; i < 5; i++) {
            check.due("no reply " + i + " to " + end, x.row(0, 0, length, c, end, i), NONE);
        }
        for (int i : NO_REPLY) {
            check.due("never a reply " + i + " to " + end, x.row(0, 0, length, c, end, i), NONE);
        }
    }

    private static void row() {
        DeedHands x = new DeedHands();
        check.text(x, 0, "?p01p2");
        for (int length = 2; length <= 4; length++) {
            rowDue(x, length, 2, 0, 1, 0);
            rowDue(x, length, 2, 1, 0);
            rowDue(x, length, 2, 2, 1, 2);
            check.due("not among all", x.row(0, 0, length, 2, 3, -1), DeedHands.NO);
            check.due("not asking", x.row(0, 0, length, 2, 8, 0), DeedHands.NO);
        }
        rowDue(x, 1, 2, 8, 1);
        rowDue(x, 1, 2, 1, 0);
        rowDue(x, 0, 2, 8);
        check.due("not by 0 alone", x.row(0, 0, 4, 0, 0, -1), DeedHands.NO);
        check.text(x, 0, "+p0+p0+p0p0");
        rowDue(x, 4, 2, 5, 0, 1, 2, 2);
        rowDue(x, 4, 2, 0, 0, 0, 0, 0);
        rowDue(x, 3, 2, 8, 0, 0, 0);
        check.text(x, 0, "mp0mp0mp0p0");
        rowDue(x, 4, 2, 2, 2, 2, 2, 2);
        check.text(x, 0, "?p0+3p0p0");
        check.due("each row counts", x.all(0, 0, 2, 1), 27);
        rowDue(x, 2, 1, 0, 1, 0);
    }

    private static void fewestReplies() {
        DeedHands x = new DeedHands();
        check.text(x, 0, "?p0+1p12");
        rowDue(x, 2, 2, 2, 1);
        rowDue(x, 2, 2, 1, 0, 0);
        rowDue(x, 2, 2, 3, 0, 2);
        // Used replies count, not the row's length.
        check.text(x, 0, "5");
        rowDue(x, 4, 2, 5);
    }

    private static void spentRow() {
        DeedHands x = new DeedHands();
        check.clause(x, 0, 1, "@0qx");
        check.text(x, 0, "?p0+1p0@0q0");
        check.due("all with spent", x.all(0, 0, 2, 1), 1 << 9 | 1 << 1 | 1 << 2);
        rowDue(x, 2, 1, 9, 1);
        rowDue(x, 2, 1, 2, 0, 1);
        check.text(x, 0, "@0q0");
        check.due("only spent", x.all(0, 0, 0, 0), 512);
        rowDue(x, 4, 2, 9);
    }

    private static void apartDue(String one, String other, int length, int c, int... want) {
        DeedHands x = new DeedHands();
        check.text(x, 1, one);
        check.text(x, 2, other);
        String what = one + " and " + other + " by " + length + " to " + c;
        check.due(what, x.apart(1, 0, 2, 0, length, c, -1), want.length);
        check.due("and back " + what, x.apart(2, 0, 1, 0, length, c, -1), want.length);
        for (int i = 0; i < want.length; i++) {
            check.due(what + ", reply " + i, x.apart(1, 0, 2, 0, length, c, i), want[i]);
        }
        for (int i = want.length; i < 5; i++) {
            check.due(what + ", no reply " + i, x.apart(1, 0, 2, 0, length, c, i), NONE);
        }
        for (int i : NO_REPLY) {
            check.due(what + ", never a reply " + i, x.apart(1, 0, 2, 0, length, c, i), NONE);
        }
    }

    private static void alike(String one, String other, int length, int c) {
        DeedHands x = new DeedHands();
        check.text(x, 1, one);
        check.text(x, 2, other);
        for (int i = -1; i < 5; i++) {
            check.due(one + " and " + other + " alike, " + i, x.apart(1, 0, 2, 0, length, c, i), NONE);
        }
        for (int i : NO_REPLY) {
            check.due(one + " and " + other + " alike, never " + i, x.apart(1, 0, 2, 0, length, c, i), NONE);
        }
    }

    private static void apart() {
        apartDue("0", "1", 0, 0);
        apartDue("0", "p0", 4, 2);
        apartDue("p0", "q0", 4, 2);
        apartDue("p0", "p1", 4, 2);
        apartDue("p1", "q0", 4, 2);
        apartDue("3", "q3", 4, 2);
        apartDue("r3", "3", 4, 2);
        alike("3", "+12", 4, 2);
        alike("p0", "+p00", 4, 2);
        DeedHands x = new DeedHands();
        check.text(x, 0, "px");
        check.due("arguments tell apart", x.apart(0, 1, 0, 2, 4, 2, -1), 0);
        check.due("the same argument does not", x.apart(0, 2, 0, 2, 4, 2, -1), NONE);
        x.reply(0);
        check.due("the own replies are not used", x.apart(0, 1, 0, 2, 4, 2, -1), 0);
        check.due("and stay", x.told(1), 1);
    }

    private static void apartByReplies() {
        apartDue("p0", "mp01", 1, 2, 2);
        apartDue("p0", "mp01", 4, 2, 2);
        alike("p0", "mp01", 4, 1);
        alike("p0", "mp01", 0, 2);
        apartDue("-p0p0", "+p0p0", 4, 2, 0, 1);
        apartDue("-p0p0", "+p0p0", 2, 1, 0, 1);
        alike("-p0p0", "+p0p0", 1, 2);
        alike("-p0p0", "+p0p0", 4, 0);
        // Fewer replies come ahead of those that are first.
        apartDue("?p0p02", "?p0+1p03", 4, 2, 1);
        apartDue("?p0p0p1", "?p0p0p2", 4, 2, 1);
        apartDue("?p0p02", "?p0+1p02", 4, 2, 0, 0);
        apartDue("+p0+p0+p0p0", "+p0+p0+p0mp01", 4, 2, 0, 0, 0, 2);
        alike("+p0+p0+p0p0", "+p0+p0+p0mp01", 3, 2);
        apartDue("mp0mp0mp0p0", "m1mp0mp0mp0p0", 4, 2, 2, 2, 2, 2);
        apartDue("?p0p0p0", "?p0p0+1p0", 4, 2, 1, 0);
    }

    private static void apartWhenSpent() {
        DeedHands x = new DeedHands();
        check.clause(x, 0, 1, "@0qx");
        check.text(x, 0, "@0q0");
        check.text(x, 1, "+1@0q5");
        check.text(x, 2, "?p03@0q0");
        check.due("both are spent", x.apart(0, 0, 1, 0, 4, 2, -1), NONE);
        check.due("spent and a value", x.apart(0, 0, 3, 0, 4, 2, -1), 0);
        check.due("spent and asking", x.apart(0, 0, 2, 0, 4, 2, -1), 0);
        check.text(x, 3, "?p032");
        check.due("behind a reply", x.apart(2, 0, 3, 0, 4, 2, -1), 1);
        check.due("that is 1", x.apart(2, 0, 3, 0, 4, 2, 0), 1);
        check.due("not by 0", x.apart(2, 0, 3, 0, 4, 0, -1), NONE);
    }

    private static void wrong() {
        DeedHands x = new DeedHands();
        int[] odd = {-2, 10, Integer.MIN_VALUE, Integer.MAX_VALUE};
        for (int bad : odd) {
            check.due("all text", x.all(bad, bad, bad, bad), DeedHands.UNKNOWN);
            check.due("all argument", x.all(0, bad, 0, 0), DeedHands.OUTSIDE);
            check.due("all length", x.all(0, 0, bad, 0), DeedHands.OUTSIDE);
            check.due("all c", x.all(0, 0, 0, bad), DeedHands.OUTSIDE);
            check.due("row text", x.row(bad, bad, bad, bad, bad, bad), DeedHands.UNKNOWN);
            check.due("row argument", x.row(0, bad, 0, 0, 0, 0), DeedHands.OUTSIDE);
            check.due("row length", x.row(0, 0, bad, 0, 0, 0), DeedHands.OUTSIDE);
            check.due("row c", x.row(0, 0, 0, bad, 0, 0), DeedHands.OUTSIDE);
            check.due("row end", x.row(0, 0, 0, 0, bad, 0), DeedHands.OUTSIDE);
            check.due("apart text", x.apart(bad, bad, 0, bad, bad, bad, bad), DeedHands.UNKNOWN);
            check.due("apart other", x.apart(0, bad, bad, bad, bad, bad, bad), DeedHands.UNKNOWN);
            check.due("apart argument", x.apart(0, bad, 0, 0, 0, 0, 0), DeedHands.OUTSIDE);
            check.due("apart with", x.apart(0, 0, 0, bad, 0, 0, 0), DeedHands.OUTSIDE);
            check.due("apart length", x.apart(0, 0, 0, 0, bad, 0, 0), DeedHands.OUTSIDE);
            check.due("apart c", x.apart(0, 0, 0, 0, 0, bad, 0), DeedHands.OUTSIDE);
        }
        check.due("all(-1, 0, 0, 0)", x.all(-1, 0, 0, 0), DeedHands.UNKNOWN);
        check.due("all(4, 0, 0, 0)", x.all(4, 0, 0, 0), DeedHands.UNKNOWN);
        check.due("all(0, 8, 0, 0)", x.all(0, 8, 0, 0), DeedHands.OUTSIDE);
        check.due("all(0, 0, 5, 0)", x.all(0, 0, 5, 0), DeedHands.OUTSIDE);
        check.due("all(0, 0, 0, 3)", x.all(0, 0, 0, 3), DeedHands.OUTSIDE);
        check.due("all(0, 0, -1, 0)", x.all(0, 0, -1, 0), DeedHands.OUTSIDE);
        check.due("all(0, 0, 0, -1)", x.all(0, 0, 0, -1), DeedHands.OUTSIDE);
        check.due("row end -1", x.row(0, 0, 0, 0, -1, -1), DeedHands.OUTSIDE);
        check.due("row end 10", x.row(0, 0, 0, 0, 10, -1), DeedHands.OUTSIDE);
        check.due("outside comes ahead of no", x.row(0, 8, 0, 0, 1, -1), DeedHands.OUTSIDE);
        check.due("outside comes ahead of none", x.row(0, 0, 5, 0, 0, -2), DeedHands.OUTSIDE);
        check.due("no comes ahead of none", x.row(0, 0, 0, 0, 1, 3), DeedHands.NO);
        check.due("no comes ahead of none below -1, too", x.row(0, 0, 0, 0, 1, -2), DeedHands.NO);
        check.due("apart outside comes ahead of none", x.apart(0, 0, 0, 0, 5, 0, -2), DeedHands.OUTSIDE);
        check.due("apart other 4", x.apart(0, 0, 4, 0, 0, 0, 0), DeedHands.UNKNOWN);
        check.due("apart with 8", x.apart(0, 0, 0, 8, 0, 0, 0), DeedHands.OUTSIDE);
    }
}
