/**
 * Promises 13 and 14, each sentence that names a boundary: the last that is taken and the first that
 * is not. Each method stands for one sentence of the document.
 */
public final class WrittenEdgesTest {
    private static final int UNKNOWN = DeedHands.UNKNOWN;
    private static final int[] FAR = {Integer.MIN_VALUE, Integer.MIN_VALUE + 1, -65536, -256, -4, -3, -2,
        5, 256, 65536, 1 << 30, Integer.MAX_VALUE - 1, Integer.MAX_VALUE};
    private static final Check check = new Check();

    public static void main(String[] args) {
        mayOfNumbersAndTheArgument();
        mayOfActsTogether();
        mayOfAnAsking();
        mayOfK();
        eachHandWrittenAnywhere();
        mayOfATextWithinAHand();
        theLeastOnes();
        mayIsToldWithoutARun();
        mayAtFortySigns();
        mayNumbers();
        noSuchClauseForMay();
        oftenNoneOneMore();
        oftenOfActsTogether();
        oftenOfTheGreaterOne();
        oftenWithinAHand();
        oftenIsOfWhatIsWritten();
        oftenNumbers();
        noSuchClauseForOften();
        check.end("WrittenEdgesTest");
    }

    private static void may(String signs, int due) {
        for (int text = 0; text < 4; text++) {
            DeedHands x = check.written(text + " " + signs);
            check.due("may of text " + signs, x.may(-1, text), due);
        }
        for (int part = 0; part < 4; part++) {
            DeedHands x = check.written("3" + part + " " + signs);
            check.due("may of clause " + signs, x.may(3, part), due);
        }
    }

    /** "of a NUMBER, the ARGUMENT none" */
    private static void mayOfNumbersAndTheArgument() {
        may("0", 0);
        may("7", 0);
        may("x", 0);
        may("+*x3m-1x2", 0);
        may("@0@1x", 0);
    }

    /** "of ACTS, ? those of their texts together": each text by itself, and all. */
    private static void mayOfActsTogether() {
        for (String act : new String[] {"+", "-", "*", "m"}) {
            may(act + "p01", 1);
            may(act + "1p0", 1);
            may(act + "q0r0", 6);
            may(act + "q0q0", 2);
        }
        may("?p012", 1);
        may("?0q12", 2);
        may("?01r2", 4);
        may("?p0q1r2", 7);
        // It is told as it is written: the text that no run works counts, too.
        may("?0p1q1", 3);
        may("?1p1q1", 3);
    }

    /** "of an asking its DEED and those of its text" */
    private static void mayOfAnAsking() {
        may("p0", 1);
        may("q0", 2);
        may("r0", 4);
        may("pq0", 3);
        may("rp0", 5);
        may("qr0", 6);
        may("rqp0", 7);
        may("ppppppppp0", 1);
        may("ppppppppr0", 5);
    }

    /** "of k those of its text, and those that any text within the HAND of its CLAUSE .. may ask beyond it" */
    private static void mayOfK() {
        DeedHands x = check.written("20 k1", "21 kr1", "22 1", "30 k1");
        check.due("nothing is written within the hand", x.may(2, 0), 0);
        check.due("its text's", x.may(2, 1), 4);
        check.text(x, 0, "@2q1");
        // q's clause is r1 and goes on with what is within; r's clause answers r.
        check.due("what goes on asks r", x.may(2, 0), 4);
        check.due("another hand's k does not", x.may(3, 0), 0);
        check.due("drop", x.drop(2, 1), 3);
        check.due("it asks q itself then", x.may(2, 0), 2);
        check.text(x, 0, "@2p1");
        check.due("what its own clause answers is not beyond", x.may(2, 0), 0);
        check.text(x, 0, "@2r1");
        check.due("nor by a clause that is a number", x.may(2, 0), 0);
        check.text(x, 0, "+q1@21");
        check.due("what stands beside the hand does not count", x.may(2, 0), 0);
        check.text(x, 0, "q@21");
        check.due("nor what stands around it", x.may(2, 0), 0);
    }

    /** "(each @ of that HAND that is written in a TEXT or CLAUSE, with its text)" */
    private static void eachHandWrittenAnywhere() {
        for (int text = 0; text < 4; text++) {
            check.due("in text " + text, check.written("10 kx", text + " +1@1q0").may(1, 0), 2);
        }
        for (int n = 0; n < 16; n++) {
            int hand = n / 4;
            int part = n % 4;
            if (hand == 1 && part == 0) {
                check.due("in the clause itself", check.written("10 +kx@1q0").may(1, 0), 2);
            } else if (hand == 1) {
                // The text within hand 1 asks for what the hand has no clause for.
                String asks = part == 1 ? "r0" : "q0";
                check.due("in its own hand's clause for " + part,
                    check.written("10 kx", "1" + part + " @1" + asks).may(1, 0), part == 1 ? 4 : 2);
            } else {
                check.due("in clause " + hand + " " + part,
                    check.written("10 kx", hand + "" + part + " @1q0").may(1, 0), 2);
            }
        }
        check.due("two of them", check.written("10 kx", "0 @1q0", "1 @1r0").may(1, 0), 6);
        check.due("in one text", check.written("10 kx", "0 +@1q0@1r0").may(1, 0), 6);
        check.due("one within another", check.written("10 kx", "0 @1+r0@1q0").may(1, 0), 6);
        DeedHands x = check.written("10 kx", "0 @1q0");
        check.text(x, 0, "1");
        check.due("no more, if it is written no more", x.may(1, 0), 0);
        x = check.written("10 kx", "20 @1q0");
        check.due("drop", x.drop(2, 0), 4);
        check.due("nor, if it is dropped", x.may(1, 0), 0);
        x = check.written("10 kx");
        check.say(x, "@1q0");
        check.due("what is on the pad is not written", x.may(1, 0), 0);
    }

    /** "those of it for which the HAND has no CLAUSE, those of its CLAUSES for the others of them, and of .. BACK" */
    private static void mayOfATextWithinAHand() {
        String text = "0 @0+p0q0";
        check.due("no clause", check.written(text).may(-1, 0), 3);
        check.due("one for p", check.written(text, "00 1").may(-1, 0), 2);
        check.due("one for q", check.written(text, "01 1").may(-1, 0), 1);
        check.due("both", check.written(text, "00 1", "01 1").may(-1, 0), 0);
        check.due("that asks r", check.written(text, "00 1", "01 r1").may(-1, 0), 4);
        check.due("that asks p: beside the hand", check.written(text, "00 p1", "01 1").may(-1, 0), 1);
        check.due("a clause for what is not asked", check.written(text, "02 r1").may(-1, 0), 3);
        check.due("back", check.written(text, "03 r1").may(-1, 0), 7);
        check.due("back asks p: beside the hand", check.written(text, "00 1", "01 1", "03 p1").may(-1, 0), 1);
        check.due("back of a text that asks nothing", check.written("0 @01", "03 p1").may(-1, 0), 1);
        check.due("another hand's clauses", check.written(text, "10 1", "11 1", "13 r1").may(-1, 0), 3);
        check.due("an outer hand", check.written("0 @1@0+p0q0", "10 1", "01 r0", "12 1").may(-1, 0), 0);
        check.due("an inner one first", check.written("0 @1@0p0", "10 q0", "00 r0").may(-1, 0), 4);
    }

    /** "They are the least ones of which this holds for all." */
    private static void theLeastOnes() {
        check.due("its own clause", check.written("0 @0p0", "00 @0px").may(-1, 0), 0);
        check.due("its own k", check.written("0 @0p0", "00 kx").may(-1, 0), 0);
        check.due("its own k within its hand", check.written("0 @0p0", "00 @0kpx").may(-1, 0), 0);
        String[] round = {"00 @1q0", "11 @2r0", "22 @3p0", "30 @0p0"};
        check.due("round four hands", check.written("0 @0p0", round[0], round[1], round[2], round[3]).may(-1, 0), 0);
        // One deed comes in at the far end of the row of clauses and goes through all of them.
        String[] far = {"00 @1q0", "11 @2r0", "22 @3p0", "30 r1"};
        DeedHands x = check.written("0 @0p0", far[0], far[1], far[2], far[3]);
        check.due("the text", x.may(-1, 0), 4);
        check.due("the first clause", x.may(0, 0), 4);
        check.due("the second one", x.may(1, 1), 4);
        check.due("the third one", x.may(2, 2), 4);
        check.due("the last one", x.may(3, 0), 4);
        check.due("drop", x.drop(3, 0), 2);
        check.due("p then", x.may(-1, 0), 1);
        check.clause(x, 3, 0, "1");
        check.due("nothing then", x.may(-1, 0), 0);
    }

    /** "Without a RUN": neither REPLIES nor limits count. */
    private static void mayIsToldWithoutARun() {
        DeedHands x = check.written("0 +@0q0p1", "01 @0qx", "1 ?1p0q0");
        check.due("the run is spent ahead of p", x.run(0, 0, 0), 9);
        check.due("but it may ask", x.may(-1, 0), 1);
        check.replies(x, 1, 2, 3, 4, 5, 6, 7, 0);
        check.due("replies do not count", x.may(-1, 1), 3);
    }

    /** The last signs of the most that can be written count, too. */
    private static void mayAtFortySigns() {
        String forty = "?+??000?000?000++001+??000?000?000p0@2q0";
        DeedHands x = check.written("3 " + forty);
        check.due("its signs", x.told(13), 40);
        check.due("of the last text", x.may(-1, 3), 3);
        check.clause(x, 2, 1, "r0");
        check.due("past the hand", x.may(-1, 3), 5);
        x = check.written("33 " + forty, "21 r0", "20 kx");
        check.due("of the last clause", x.may(3, 3), 5);
        check.due("what is within the hand there", x.may(2, 0), 4);
    }

    /** "of a TEXT (hand = -1, which is its number), of a CLAUSE, as bits. UNKNOWN" */
    private static void mayNumbers() {
        DeedHands x = check.written("0 p0", "1 q0", "2 r0", "3 rqp0", "00 q0", "03 r0", "30 rq0", "33 qp0");
        int[] texts = {1, 2, 4, 7};
        for (int text = 0; text < 4; text++) {
            check.due("may(-1, " + text + ")", x.may(-1, text), texts[text]);
        }
        check.due("may(0, 0)", x.may(0, 0), 2);
        check.due("may(0, 3)", x.may(0, 3), 4);
        check.due("may(3, 0)", x.may(3, 0), 6);
        check.due("may(3, 3)", x.may(3, 3), 3);
        for (int hand : new int[] {-1, 0, 3}) {
            check.due("which -1 of " + hand, x.may(hand, -1), UNKNOWN);
            check.due("which 4 of " + hand, x.may(hand, 4), UNKNOWN);
            for (int far : FAR) {
                check.due("which " + far + " of " + hand, x.may(hand, far), UNKNOWN);
            }
        }
        for (int which : new int[] {-1, 0, 3, 4}) {
            check.due("may(-2, " + which + ")", x.may(-2, which), UNKNOWN);
            check.due("may(4, " + which + ")", x.may(4, which), UNKNOWN);
            for (int far : FAR) {
                check.due("may(" + far + ", " + which + ")", x.may(far, which), UNKNOWN);
            }
        }
    }

    /** "UNKNOWN: also there is no such CLAUSE." */
    private static void noSuchClauseForMay() {
        for (int n = 0; n < 16; n++) {
            DeedHands x = check.written(n / 4 + "" + n % 4 + " p1");
            for (int other = 0; other < 16; other++) {
                check.due("may", x.may(other / 4, other % 4), other == n ? 1 : UNKNOWN);
            }
            check.due("drop", x.drop(n / 4, n % 4), 2);
            check.due("may then", x.may(n / 4, n % 4), UNKNOWN);
        }
    }

    private static void often(String signs, int due) {
        for (int n = 0; n < 12; n += 11) {
            DeedHands x = check.written(n / 3 + "" + n % 3 + " " + signs);
            check.due("often of " + signs, x.often(n / 3, n % 3), due);
        }
    }

    /** "none (0), one (1), more (2)" and "of k its text's and one" */
    private static void oftenNoneOneMore() {
        often("0", 0);
        often("x", 0);
        often("k0", 1);
        often("kx", 1);
        often("kk0", 2);
        often("kkk0", 2);
        often("kkkkkkkkk0", 2);
        often("k+11", 1);
        often("k+1k1", 2);
    }

    /** "of ACTS together" */
    private static void oftenOfActsTogether() {
        for (String act : new String[] {"+", "-", "*", "m"}) {
            often(act + "01", 0);
            often(act + "k01", 1);
            often(act + "1k0", 1);
            often(act + "k0k0", 2);
            often(act + "kk01", 2);
            often(act + "1kk0", 2);
            often(act + "kk0kk0", 2);
            often(act + act + "k0k0" + act + "k0k0", 2);
        }
    }

    /** "of ? the first and the greater one of the others" */
    private static void oftenOfTheGreaterOne() {
        String[] parts = {"1", "k1", "kk1"};
        for (int a = 0; a < 3; a++) {
            for (int b = 0; b < 3; b++) {
                for (int c = 0; c < 3; c++) {
                    often("?" + parts[a] + parts[b] + parts[c], Math.min(2, a + Math.max(b, c)));
                }
            }
        }
    }

    /** "of a text within a HAND: 2, if there is any in it" */
    private static void oftenWithinAHand() {
        for (int hand = 0; hand < 4; hand++) {
            often("@" + hand + "x", 0);
            often("@" + hand + "kx", 2);
            often("@" + hand + "+1k1", 2);
            often("@" + hand + "?01k1", 2);
            often("@" + hand + "@" + hand + "x", 0);
            often("@" + hand + "@" + hand + "kx", 2);
            often("+k1@" + hand + "x", 1);
            often("k@" + hand + "x", 1);
        }
        often("pk0", 1);
        often("qkk0", 2);
        often("r0", 0);
    }

    /** "of what is written": the clauses of the hands within it do not count, nor any run. */
    private static void oftenIsOfWhatIsWritten() {
        DeedHands x = check.written("00 @1px", "10 +kxkx", "01 ?0k1kk1", "0 @0p0");
        check.due("the other clause's k", x.often(0, 0), 0);
        check.due("what is never worked", x.often(0, 1), 2);
        check.due("the other clause", x.often(1, 0), 2);
        check.clause(x, 1, 0, "kx");
        check.due("a clause anew", x.often(1, 0), 1);
        check.due("the first one", x.often(0, 0), 0);
    }

    /** "OFTEN of a CLAUSE .. UNKNOWN" */
    private static void oftenNumbers() {
        DeedHands x = check.written("00 kx", "02 kkx", "03 x", "30 kkx", "32 kx", "33 x");
        int[][] due = {{0, 0, 1}, {0, 2, 2}, {0, 3, 0}, {3, 0, 2}, {3, 2, 1}, {3, 3, 0}};
        for (int[] one : due) {
            check.due("often(" + one[0] + ", " + one[1] + ")", x.often(one[0], one[1]), one[2]);
        }
        for (int near = 0; near < 4; near += 3) {
            check.due("often(-1, " + near + ")", x.often(-1, near), UNKNOWN);
            check.due("often(4, " + near + ")", x.often(4, near), UNKNOWN);
            check.due("often(" + near + ", -1)", x.often(near, -1), UNKNOWN);
            check.due("often(" + near + ", 4)", x.often(near, 4), UNKNOWN);
            for (int far : FAR) {
                check.due("often(" + far + ", " + near + ")", x.often(far, near), UNKNOWN);
                check.due("often(" + near + ", " + far + ")", x.often(near, far), UNKNOWN);
            }
        }
    }

    /** "UNKNOWN: also there is no such CLAUSE." */
    private static void noSuchClauseForOften() {
        for (int n = 0; n < 16; n++) {
            DeedHands x = check.written(n / 4 + "" + n % 4 + (n % 4 == 3 ? " p1" : " pk1"));
            for (int other = 0; other < 16; other++) {
                check.due("often", x.often(other / 4, other % 4), other != n ? UNKNOWN : n % 4 == 3 ? 0 : 1);
            }
            check.due("drop", x.drop(n / 4, n % 4), n % 4 == 3 ? 2 : 3);
            check.due("often then", x.often(n / 4, n % 4), UNKNOWN);
        }
    }
}
