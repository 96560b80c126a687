/**
 * Promises 15 to 17, each sentence that names a boundary: the last that is taken and the first that
 * is not. Each method stands for one sentence of the document.
 */
public final class RowEdgesTest {
    private static final int NONE = DeedHands.NONE;
    private static final int OUTSIDE = DeedHands.OUTSIDE;
    private static final int UNKNOWN = DeedHands.UNKNOWN;
    private static final int NO = DeedHands.NO;
    private static final int[] FAR = {Integer.MIN_VALUE, Integer.MIN_VALUE + 1, -65536, -256, -8, -3, -2,
        256, 65536, 1 << 30, Integer.MAX_VALUE - 1, Integer.MAX_VALUE};
    /** Hand 0 asks q for ever. */
    private static final String SPENDS = "01 @0qx";
    /** By the first reply: 0 is spent, by 1 three more are 3a + b + c, by 2 four more are asked for. */
    private static final String[] EVERY_END = {SPENDS, "12 ?x@0q0?-x1+*p03+p0p0pppp0", "0 @1rp0"};
    private static final Check check = new Check();

    public static void main(String[] args) {
        lengthsFrom0To4();
        cFrom0To2();
        eachBit();
        everyEndTogether();
        fewerRepliesThanTheRowHas();
        repliesOfTheObjectAreNotUsed();
        allNumbers();
        rowToEachEnd();
        fewestThatAreUsed();
        firstByReplies();
        rowOfNoReplies();
        rowOfFourReplies();
        iOfARow();
        notAmongAll();
        rowNumbers();
        apartBehindNoReply();
        bothEndWithOneValue();
        bothAreSpent();
        bothAskForOneDeedWithOneValue();
        apartAtTheLength();
        apartAtC();
        apartByFewest();
        apartByTheFirst();
        notToldApart();
        iOfApart();
        apartNumbers();
        check.end("RowEdgesTest");
    }

    /** "rows of REPLIES of a length (0 to 4)" */
    private static void lengthsFrom0To4() {
        DeedHands x = check.written("0 0", "1 +p0+p0+p0p0", "2 +p0p0", "3 pp+p0pp0");
        int[] due = {256, 256, 256, 256, 255};
        int[] two = {256, 256, 31, 31, 31};
        for (int length = 0; length <= 4; length++) {
            check.due("four askings by " + length, x.all(1, 0, length, 2), due[length]);
            check.due("two by " + length, x.all(2, 0, length, 2), two[length]);
            check.due("five by " + length, x.all(3, 0, length, 2), 256);
            check.due("none by " + length, x.all(0, 0, length, 2), 1);
        }
        check.due("length -1", x.all(0, 0, -1, 0), OUTSIDE);
        check.due("length 5", x.all(0, 0, 5, 0), OUTSIDE);
    }

    /** "each from 0 to c (0 to 2)" */
    private static void cFrom0To2() {
        DeedHands x = check.written("0 p0", "1 mp0mp0mp0p0", "2 -2p0", "3 ?p03?p045");
        int[] one = {1, 3, 7};
        int[] less = {4, 6, 7};
        int[] chosen = {8, 56, 56};
        for (int c = 0; c <= 2; c++) {
            check.due("one reply to " + c, x.all(0, 0, 1, c), one[c]);
            check.due("the least of four to " + c, x.all(1, 0, 4, c), one[c]);
            check.due("2 less one to " + c, x.all(2, 0, 1, c), less[c]);
            check.due("chosen to " + c, x.all(3, 0, 2, c), chosen[c]);
        }
        check.due("c -1", x.all(0, 0, 0, -1), OUTSIDE);
        check.due("c 3", x.all(0, 0, 0, 3), OUTSIDE);
    }

    /** "what a TEXT with an ARGUMENT can END with by them: bits 0 to 9" */
    private static void eachBit() {
        DeedHands x = check.written("0 x", "1 px", "2 @0qx", SPENDS, "3 ?p0x@0q0");
        for (int argument = 0; argument < 8; argument++) {
            check.due("the value " + argument, x.all(0, argument, 4, 2), 1 << argument);
            check.due("asking", x.all(1, argument, 0, 2), 256);
            check.due("spent", x.all(2, argument, 4, 2), 512);
            check.due("a value or spent", x.all(3, argument, 1, 1), 512 | 1 << argument);
        }
    }

    /** All of the bits in one answer. */
    private static void everyEndTogether() {
        DeedHands x = check.written(EVERY_END);
        check.due("every end", x.all(0, 0, 4, 2), 1023);
        check.due("by three", x.all(0, 0, 3, 2), 768);
        check.due("by one", x.all(0, 0, 1, 2), 768);
        check.due("by none", x.all(0, 0, 0, 2), 256);
        check.due("to 1", x.all(0, 0, 4, 1), 575);
        check.due("to 0", x.all(0, 0, 4, 0), 512);
    }

    /** Rows of which a run uses only the first replies. */
    private static void fewerRepliesThanTheRowHas() {
        DeedHands x = check.written("0 ?p0p1?p02p3");
        check.due("by 1", x.all(0, 0, 1, 2), 256);
        check.due("by 2", x.all(0, 0, 2, 2), 1 | 2 | 4 | 256);
        check.due("by 3", x.all(0, 0, 3, 2), 1 | 2 | 4);
        check.due("by 4", x.all(0, 0, 4, 2), 1 | 2 | 4);
        check.due("by 4 to 0", x.all(0, 0, 4, 0), 1);
    }

    /** The rows are gone through in place of the REPLIES, which stay. */
    private static void repliesOfTheObjectAreNotUsed() {
        DeedHands x = check.written("0 p0", "1 p1");
        check.replies(x, 7, 6, 5, 4, 3, 2, 1, 0);
        check.due("all", x.all(0, 0, 1, 1), 3);
        check.due("all by none", x.all(0, 0, 0, 1), 256);
        check.due("row", x.row(0, 0, 1, 1, 1, 0), 1);
        check.due("no row to 7", x.row(0, 0, 4, 2, 7, -1), NO);
        check.due("apart by none", x.apart(0, 0, 1, 0, 0, 0, -1), 0);
        check.due("they stay", x.told(1), 8);
        check.run(x, 0, 0, 7, 2, 1);
    }

    /** "UNKNOWN; OUTSIDE: ARGUMENT, length, c." */
    private static void allNumbers() {
        DeedHands x = check.written("0 x", "3 x");
        for (int text = 0; text < 4; text += 3) {
            for (int argument = 0; argument < 8; argument += 7) {
                check.due("the least", x.all(text, argument, 0, 0), 1 << argument);
                check.due("the most", x.all(text, argument, 4, 2), 1 << argument);
                check.due("length -1", x.all(text, argument, -1, 2), OUTSIDE);
                check.due("length 5", x.all(text, argument, 5, 2), OUTSIDE);
                check.due("c -1", x.all(text, argument, 4, -1), OUTSIDE);
                check.due("c 3", x.all(text, argument, 4, 3), OUTSIDE);
            }
            check.due("argument -1", x.all(text, -1, 4, 2), OUTSIDE);
            check.due("argument 8", x.all(text, 8, 4, 2), OUTSIDE);
        }
        for (int text : new int[] {-1, 4}) {
            check.due("text " + text, x.all(text, 0, 0, 0), UNKNOWN);
            check.due("and argument", x.all(text, 8, 0, 0), UNKNOWN);
            check.due("and length", x.all(text, 0, 5, 0), UNKNOWN);
            check.due("and c", x.all(text, 0, 0, 3), UNKNOWN);
            check.due("and all", x.all(text, -1, -1, -1), UNKNOWN);
        }
        for (int far : FAR) {
            check.due("text " + far, x.all(far, 0, 0, 0), UNKNOWN);
            check.due("argument " + far, x.all(0, far, 0, 0), OUTSIDE);
            check.due("length " + far, x.all(0, 0, far, 0), OUTSIDE);
            check.due("c " + far, x.all(0, 0, 0, far), OUTSIDE);
        }
    }

    private static void row(DeedHands x, int length, int c, int end, int... due) {
        String what = "row to " + end + " by " + length + " to " + c;
        check.due(what, x.row(0, 0, length, c, end, -1), due.length);
        for (int i = 0; i < due.length; i++) {
            check.due(what + ", " + i, x.row(0, 0, length, c, end, i), due[i]);
        }
        check.due(what + ", behind the last", x.row(0, 0, length, c, end, due.length), NONE);
    }

    /** "ROW to an end (0 to 9)" */
    private static void rowToEachEnd() {
        DeedHands x = check.written(EVERY_END);
        int[][] due = {{1, 0, 0, 0}, {1, 0, 0, 1}, {1, 0, 0, 2}, {1, 0, 1, 2}, {1, 0, 2, 2}, {1, 1, 0, 2},
            {1, 1, 1, 2}, {1, 1, 2, 2}, {2, 0, 0, 0}, {0}};
        for (int end = 0; end <= 9; end++) {
            row(x, 4, 2, end, due[end]);
        }
        row(x, 3, 2, 8, 1, 0, 0);
        row(x, 2, 2, 8, 1, 0);
        row(x, 1, 2, 8, 1);
        row(x, 0, 2, 8);
        row(x, 1, 0, 9, 0);
        check.due("end -1", x.row(0, 0, 4, 2, -1, -1), OUTSIDE);
        check.due("end 10", x.row(0, 0, 4, 2, 10, -1), OUTSIDE);
    }

    /** "the fewest REPLIES that are used by a RUN with it": also, if a row by more comes ahead. */
    private static void fewestThatAreUsed() {
        DeedHands x = check.written("0 ?p0p05");
        row(x, 2, 2, 0, 0, 0);
        row(x, 2, 2, 5, 1);
        check.text(x, 0, "?p0+1p01");
        row(x, 2, 2, 1, 1);
        check.text(x, 0, "?p0?p0?p0p076?p015");
        row(x, 4, 2, 0, 0, 0, 0, 0);
        row(x, 4, 2, 1, 1, 0);
        row(x, 4, 2, 2, 0, 0, 0, 2);
        row(x, 4, 2, 5, 1, 1);
        row(x, 4, 2, 6, 0, 1);
        row(x, 4, 2, 7, 0, 0, 1);
        row(x, 3, 2, 8, 0, 0, 0);
        row(x, 2, 2, 8, 0, 0);
        // Fewer of those that are found later still.
        check.text(x, 0, "?p0?p0+1p013");
        row(x, 3, 2, 1, 0, 1);
        row(x, 3, 2, 3, 1);
    }

    /** "of those the first by REPLIES": the first reply counts first. */
    private static void firstByReplies() {
        DeedHands x = check.written("0 +p0p0");
        row(x, 2, 2, 0, 0, 0);
        row(x, 2, 2, 1, 0, 1);
        row(x, 2, 2, 2, 0, 2);
        row(x, 2, 2, 3, 1, 2);
        row(x, 2, 2, 4, 2, 2);
        row(x, 2, 1, 2, 1, 1);
        check.text(x, 0, "-p0p0");
        row(x, 2, 2, 0, 0, 0);
        row(x, 2, 2, 7, 0, 1);
        row(x, 2, 2, 1, 1, 0);
        row(x, 2, 2, 2, 2, 0);
    }

    /** No REPLY is used: how many is 0, and there is no first one. */
    private static void rowOfNoReplies() {
        DeedHands x = check.written("0 5");
        for (int length = 0; length <= 4; length++) {
            row(x, length, 2, 5);
        }
        check.text(x, 0, "p0");
        row(x, 0, 0, 8);
        x = check.written(SPENDS, "0 @0q0");
        row(x, 4, 2, 9);
    }

    /** The first and the last of all rows. */
    private static void rowOfFourReplies() {
        DeedHands x = check.written("0 mp0mp0mp0p0");
        row(x, 4, 2, 0, 0, 0, 0, 0);
        row(x, 4, 2, 1, 1, 1, 1, 1);
        row(x, 4, 2, 2, 2, 2, 2, 2);
        row(x, 4, 1, 1, 1, 1, 1, 1);
        check.due("not to 1", x.row(0, 0, 4, 1, 2, -1), NO);
        check.due("not by 3", x.row(0, 0, 3, 2, 2, -1), NO);
        check.text(x, 0, "pppp0");
        row(x, 4, 2, 2, 0, 0, 0, 2);
        check.text(x, 0, "ppppp0");
        row(x, 4, 2, 8, 0, 0, 0, 0);
        check.due("no value", x.row(0, 0, 4, 2, 0, -1), NO);
    }

    /** "how many REPLIES (i = -1), the i-th one; NONE." */
    private static void iOfARow() {
        DeedHands x = check.written("0 +p0+*2p0*4p0");
        int[] due = {1, 1, 1};
        check.due("how many", x.row(0, 0, 4, 1, 7, -1), 3);
        for (int i = 0; i < 3; i++) {
            check.due("the one " + i, x.row(0, 0, 4, 1, 7, i), due[i]);
        }
        for (int i : new int[] {-2, 3, 4, 5, 8, 9, 199, 200}) {
            check.due("there is none " + i, x.row(0, 0, 4, 1, 7, i), NONE);
        }
        for (int i : FAR) {
            check.due("there is none " + i, x.row(0, 0, 4, 1, 7, i), NONE);
        }
    }

    /** "NO: it is not among ALL." */
    private static void notAmongAll() {
        DeedHands x = check.written("0 p0", "1 ?p0x@0q0", SPENDS);
        for (int c = 0; c <= 2; c++) {
            int all = x.all(0, 0, 1, c);
            for (int end = 0; end <= 9; end++) {
                check.due("row to " + end, x.row(0, 0, 1, c, end, -1), (all >> end & 1) == 0 ? NO : 1);
            }
        }
        check.due("asking by no row of 1", x.row(0, 0, 1, 2, 8, -1), NO);
        check.due("but by one of 0", x.row(0, 0, 0, 2, 8, -1), 0);
        check.due("spent by 0 alone", x.row(1, 0, 1, 0, 9, -1), NO);
        check.due("spent by 1", x.row(1, 0, 1, 1, 9, -1), 1);
        for (int i : new int[] {-2, 0, 1, 4}) {
            check.due("also of the one " + i, x.row(0, 0, 1, 2, 8, i), NO);
        }
    }

    /** "UNKNOWN; OUTSIDE; NO": in this order. */
    private static void rowNumbers() {
        DeedHands x = check.written("0 x", "3 x");
        for (int text = 0; text < 4; text += 3) {
            check.due("the least", x.row(text, 0, 0, 0, 0, -1), 0);
            check.due("the most", x.row(text, 7, 4, 2, 7, -1), 0);
            check.due("the last end", x.row(text, 7, 4, 2, 9, -1), NO);
            check.due("argument -1", x.row(text, -1, 0, 0, 0, -1), OUTSIDE);
            check.due("argument 8", x.row(text, 8, 0, 0, 0, -1), OUTSIDE);
            check.due("length -1", x.row(text, 0, -1, 0, 0, -1), OUTSIDE);
            check.due("length 5", x.row(text, 0, 5, 0, 0, -1), OUTSIDE);
            check.due("c -1", x.row(text, 0, 0, -1, 0, -1), OUTSIDE);
            check.due("c 3", x.row(text, 0, 0, 3, 0, -1), OUTSIDE);
            check.due("end -1", x.row(text, 0, 0, 0, -1, -1), OUTSIDE);
            check.due("end 10", x.row(text, 0, 0, 0, 10, -1), OUTSIDE);
            check.due("outside ahead of no", x.row(text, 0, 0, 3, 9, -1), OUTSIDE);
        }
        for (int text : new int[] {-1, 4}) {
            check.due("text " + text, x.row(text, 0, 0, 0, 0, -1), UNKNOWN);
            check.due("ahead of argument", x.row(text, 8, 0, 0, 0, -1), UNKNOWN);
            check.due("ahead of length", x.row(text, 0, 5, 0, 0, -1), UNKNOWN);
            check.due("ahead of c", x.row(text, 0, 0, 3, 0, -1), UNKNOWN);
            check.due("ahead of end", x.row(text, 0, 0, 0, 10, -1), UNKNOWN);
            check.due("ahead of no", x.row(text, 0, 0, 0, 9, -1), UNKNOWN);
        }
        for (int far : FAR) {
            check.due("text " + far, x.row(far, 0, 0, 0, 0, 0), UNKNOWN);
            check.due("argument " + far, x.row(0, far, 0, 0, 0, 0), OUTSIDE);
            check.due("length " + far, x.row(0, 0, far, 0, 0, 0), OUTSIDE);
            check.due("c " + far, x.row(0, 0, 0, far, 0, 0), OUTSIDE);
            check.due("end " + far, x.row(0, 0, 0, 0, far, 0), OUTSIDE);
        }
    }

    private static void apart(String one, String other, int length, int c, int... due) {
        DeedHands x = check.written(SPENDS, "0 " + one, "3 " + other);
        String what = one + " and " + other + " by " + length + " to " + c;
        check.due(what, x.apart(0, 0, 3, 0, length, c, -1), due.length);
        check.due(what + " the other way", x.apart(3, 0, 0, 0, length, c, -1), due.length);
        for (int i = 0; i < due.length; i++) {
            check.due(what + ", " + i, x.apart(0, 0, 3, 0, length, c, i), due[i]);
            check.due(what + " the other way, " + i, x.apart(3, 0, 0, 0, length, c, i), due[i]);
        }
        check.due(what + ", behind the last", x.apart(0, 0, 3, 0, length, c, due.length), NONE);
    }

    private static void alike(String one, String other, int length, int c) {
        DeedHands x = check.written(SPENDS, "0 " + one, "3 " + other);
        String what = one + " and " + other + " by " + length + " to " + c;
        check.due(what, x.apart(0, 0, 3, 0, length, c, -1), NONE);
        check.due(what + " the other way", x.apart(3, 0, 0, 0, length, c, -1), NONE);
    }

    /** "the fewest REPLIES behind which they do not do alike": behind none. */
    private static void apartBehindNoReply() {
        for (int length = 0; length <= 4; length++) {
            apart("0", "1", length, 2);
            apart("0", "p0", length, 2);
            apart("0", "@0q0", length, 2);
            apart("p0", "@0q0", length, 2);
        }
        apart("0", "7", 0, 0);
    }

    /** "both END with one value" */
    private static void bothEndWithOneValue() {
        DeedHands x = check.written("0 x", "1 +x0", "2 +x1");
        for (int a = 0; a < 8; a++) {
            check.due("one value", x.apart(0, a, 1, a, 4, 2, -1), NONE);
            check.due("two values", x.apart(0, a, 2, a, 4, 2, -1), 0);
            check.due("one value by other arguments", x.apart(0, (a + 1) % 8, 2, a, 4, 2, -1), NONE);
            check.due("two values of one text", x.apart(0, a, 0, (a + 1) % 8, 4, 2, -1), 0);
            check.due("one value of one text", x.apart(0, a, 0, a, 4, 2, -1), NONE);
        }
        // One value by other steps, other replies used: they do alike behind the same replies.
        alike("0", "*0+12", 4, 2);
        alike("p0", "+0p0", 4, 2);
    }

    /** "both are SPENT": by steps or by goings on. */
    private static void bothAreSpent() {
        alike("@0q0", "+1@0q5", 4, 2);
        alike("+p0@0q0", "+1+p0@0q5", 4, 2);
        DeedHands x = check.written(SPENDS, "10 kkkkkkkkk0", "0 +@1p0+@1p0+@1p0+@1p0@1p0", "1 @0q0");
        check.due("spent by goings on", x.run(0, 0, 5), 40);
        check.due("spent by steps", x.run(1, 0, 1), 200);
        check.due("both are spent", x.apart(0, 0, 1, 0, 4, 2, -1), NONE);
        check.due("one is spent", x.apart(0, 0, 2, 0, 4, 2, -1), 0);
        apart("?p01@0q0", "?p012", 4, 2, 1);
        apart("?p01@0q0", "?p01q0", 4, 2, 1);
    }

    /** "both ASK for one DEED with one value" */
    private static void bothAskForOneDeedWithOneValue() {
        alike("p3", "p+12", 0, 0);
        alike("p3", "+p34", 0, 2);
        apart("p3", "+p34", 1, 2, 0);
        apart("p3", "q3", 4, 2);
        apart("q3", "r3", 4, 2);
        apart("p3", "r3", 4, 2);
        apart("p3", "p4", 4, 2);
        apart("p0", "p7", 4, 2);
        // The first asking is alike, the second one is not.
        apart("pp3", "qp3", 4, 2, 0);
        apart("pp3", "p+1p3", 4, 2, 0);
        alike("pp3", "qp3", 0, 2);
    }

    /** "by the same rows": told apart at the length, and not by one less. */
    private static void apartAtTheLength() {
        apart("p0", "-0p0", 1, 1, 1);
        alike("p0", "-0p0", 0, 1);
        apart("+p0p0", "-p0p0", 2, 1, 0, 1);
        alike("+p0p0", "-p0p0", 1, 1);
        apart("ppp0", "pp-0p0", 3, 1, 1);
        apart("ppp0", "-0ppp0", 3, 1, 0, 0, 1);
        alike("ppp0", "-0ppp0", 2, 1);
        apart("pppp0", "-0pppp0", 4, 1, 0, 0, 0, 1);
        alike("pppp0", "-0pppp0", 3, 1);
        alike("ppppp0", "-0ppppp0", 4, 2);
    }

    /** "each from 0 to c": told apart by c, and not by one less. */
    private static void apartAtC() {
        apart("p0", "*p0p1", 1, 0, 0);
        apart("p0", "-0p0", 4, 1, 1);
        alike("p0", "-0p0", 4, 0);
        apart("p0", "mp01", 4, 2, 2);
        alike("p0", "mp01", 4, 1);
        alike("p0", "mp02", 4, 2);
        apart("mp0mp0mp0p0", "m1mp0mp0mp0p0", 4, 2, 2, 2, 2, 2);
        alike("mp0mp0mp0p0", "m1mp0mp0mp0p0", 4, 1);
    }

    /** "the fewest REPLIES": ahead of a row that is first but longer. */
    private static void apartByFewest() {
        apart("?p0p02", "?p0+1p03", 4, 2, 1);
        apart("?p0?p0p03?p045", "?p0?p0+1p03?p046", 4, 2, 1, 1);
        apart("?p0pp02", "?p0+1pp0?p023", 4, 2, 1);
    }

    /** "of those the first by REPLIES" */
    private static void apartByTheFirst() {
        apart("+p0p0", "+p0mp01", 4, 2, 0, 2);
        apart("+p0p0", "+mp01p0", 4, 2, 2, 0);
        apart("*p0p0", "*p0mp01", 4, 2, 1, 2);
        apart("?p0?p01+1p02", "?p0?p01+2p02", 4, 2, 0, 1, 0);
        apart("ppp0", "p+1pp0", 4, 2, 0, 0);
    }

    /** "NONE: they are not told apart": whatever i is. */
    private static void notToldApart() {
        DeedHands x = check.written("0 p0", "1 +0p0");
        for (int i : new int[] {-2, -1, 0, 1, 4, 5}) {
            check.due("alike, " + i, x.apart(0, 0, 1, 0, 4, 2, i), NONE);
        }
        for (int i : FAR) {
            check.due("alike, " + i, x.apart(0, 0, 1, 0, 4, 2, i), NONE);
        }
        for (int text = 0; text < 4; text++) {
            check.due("a text and itself", x.apart(text, 3, text, 3, 4, 2, -1), NONE);
        }
    }

    /** "how many REPLIES (i = -1 ..), the i-th one; NONE." */
    private static void iOfApart() {
        DeedHands x = check.written("0 mp0mp0mp0p0", "1 m1mp0mp0mp0p0", "2 0", "3 1");
        check.due("how many", x.apart(0, 0, 1, 0, 4, 2, -1), 4);
        for (int i = 0; i < 4; i++) {
            check.due("the one " + i, x.apart(0, 0, 1, 0, 4, 2, i), 2);
        }
        for (int i : new int[] {-2, 4, 5, 8, 9}) {
            check.due("there is none " + i, x.apart(0, 0, 1, 0, 4, 2, i), NONE);
        }
        for (int i : FAR) {
            check.due("there is none " + i, x.apart(0, 0, 1, 0, 4, 2, i), NONE);
        }
        check.due("how many are none", x.apart(2, 0, 3, 0, 4, 2, -1), 0);
        check.due("and no first one", x.apart(2, 0, 3, 0, 4, 2, 0), NONE);
    }

    /** "UNKNOWN; OUTSIDE.": in this order, for both texts and both arguments. */
    private static void apartNumbers() {
        DeedHands x = check.written("0 x", "3 +x1");
        check.due("the least", x.apart(0, 0, 0, 0, 0, 0, -1), NONE);
        check.due("the most", x.apart(3, 7, 3, 7, 4, 2, -1), NONE);
        check.due("left over by 8", x.apart(3, 7, 0, 0, 4, 2, -1), NONE);
        check.due("0 and 7", x.apart(0, 0, 0, 7, 4, 2, -1), 0);
        for (int text : new int[] {-1, 4}) {
            for (int bad : new int[] {-1, 8}) {
                check.due("text " + text, x.apart(text, 0, 0, 0, 0, 0, -1), UNKNOWN);
                check.due("other " + text, x.apart(0, 0, text, 0, 0, 0, -1), UNKNOWN);
                check.due("text ahead of argument", x.apart(text, bad, 0, 0, 0, 0, -1), UNKNOWN);
                check.due("text ahead of with", x.apart(text, 0, 0, bad, 0, 0, -1), UNKNOWN);
                check.due("other ahead of argument", x.apart(0, bad, text, 0, 0, 0, -1), UNKNOWN);
                check.due("other ahead of with", x.apart(0, 0, text, bad, 0, 0, -1), UNKNOWN);
                check.due("other ahead of length", x.apart(0, 0, text, 0, bad, 0, -1), UNKNOWN);
                check.due("other ahead of c", x.apart(0, 0, text, 0, 0, bad, -1), UNKNOWN);
                check.due("text ahead of length", x.apart(text, 0, 0, 0, bad, 0, -1), UNKNOWN);
                check.due("text ahead of c", x.apart(text, 0, 0, 0, 0, bad, -1), UNKNOWN);
            }
        }
        for (int bad : new int[] {-1, 8}) {
            check.due("argument " + bad, x.apart(0, bad, 0, 0, 0, 0, -1), OUTSIDE);
            check.due("with " + bad, x.apart(0, 0, 0, bad, 0, 0, -1), OUTSIDE);
        }
        check.due("length -1", x.apart(0, 0, 3, 0, -1, 0, -1), OUTSIDE);
        check.due("length 5", x.apart(0, 0, 3, 0, 5, 0, -1), OUTSIDE);
        check.due("c -1", x.apart(0, 0, 3, 0, 0, -1, -1), OUTSIDE);
        check.due("c 3", x.apart(0, 0, 3, 0, 0, 3, -1), OUTSIDE);
        for (int far : FAR) {
            check.due("text " + far, x.apart(far, 0, 0, 0, 0, 0, 0), UNKNOWN);
            check.due("other " + far, x.apart(0, 0, far, 0, 0, 0, 0), UNKNOWN);
            check.due("argument " + far, x.apart(0, far, 0, 0, 0, 0, 0), OUTSIDE);
            check.due("with " + far, x.apart(0, 0, 0, far, 0, 0, 0), OUTSIDE);
            check.due("length " + far, x.apart(0, 0, 0, 0, far, 0, 0), OUTSIDE);
            check.due("c " + far, x.apart(0, 0, 0, 0, 0, far, 0), OUTSIDE);
        }
    }
}
