/**
 * Promises 9 to 12, each sentence that names a boundary: the last that is taken and the first that
 * is not. Each method stands for one sentence of the document; the dues are worked out by hand.
 */
public final class RunEdgesTest {
    private static final int NONE = DeedHands.NONE;
    private static final int OUTSIDE = DeedHands.OUTSIDE;
    private static final int UNKNOWN = DeedHands.UNKNOWN;
    private static final int[] FAR = {Integer.MIN_VALUE, Integer.MIN_VALUE + 1, -65536, -256, -8, -3, -2,
        256, 65536, 1 << 30, Integer.MAX_VALUE - 1, Integer.MAX_VALUE};
    /** Counts down: @0pn takes 3 steps, 7 for each number down to 1, and 3 for 0; it is 0. */
    private static final String COUNTS = "00 ?x0@0p-x1";
    /** Texts ahead of another one that take 196, 189 and 182 steps, and add 0 to it. */
    private static final String LEFT_4 = "+@0p7+@0p7+@0p7+@0p3";
    private static final String LEFT_11 = "+@0p7+@0p7+@0p7+@0p2";
    private static final String LEFT_18 = "+@0p7+@0p7+@0p7+@0p1";
    private static final Check check = new Check();

    public static void main(String[] args) {
        leftOverBy8();
        leftOverInAskings();
        firstIsNoughtOrElse();
        textsAreWorkedFromTheLeft();
        eachTextIsAStepAsItIsBegun();
        behind200Steps();
        spentAsOneMoreIsBegun();
        whatNeedsNoStepBehind200();
        backOrTheValueItself();
        besideTheHand();
        theNearestHandThatHasAClause();
        keptOutToThatHand();
        theHandWaitsAgain();
        justAsItWas();
        whatKComesTo();
        whatAClauseComesTo();
        kOfItsOwnClause();
        neverOnceOrOften();
        behind40GoingsOn();
        goingsOnAndStepsTogether();
        repliesFrom0To7();
        eightRepliesAtMost();
        muteTellsHowMany();
        oneBehindAnother();
        whenTheyAreUsedUp();
        eachEnd();
        runNumbers();
        whatIsToldOfARun();
        whoNumbers();
        whoTells();
        whoBehindTheLast();
        check.end("RunEdgesTest");
    }

    /** "All numbers of texts are left over by 8 (0 to 7)." */
    private static void leftOverBy8() {
        DeedHands x = new DeedHands();
        for (int b = 0; b < 8; b++) {
            String[] acts = {"+x", "-x", "*x", "mx"};
            for (int act = 0; act < 4; act++) {
                check.text(x, act, acts[act] + b);
            }
            for (int a = 0; a < 8; a++) {
                check.due(a + " + " + b, x.run(0, a, 0), (a + b) % 8);
                check.due(a + " - " + b, x.run(1, a, 0), (a - b + 8) % 8);
                check.due(a + " * " + b, x.run(2, a, 0), a * b % 8);
                check.due("the lesser of " + a + " and " + b, x.run(3, a, 0), a < b ? a : b);
            }
            x = new DeedHands();
        }
        check.text(x, 0, "***7777");
        check.due("7 * 7 * 7 * 7", x.run(0, 0, 0), 1);
        check.text(x, 0, "-0-0-01");
        check.due("0 - (0 - (0 - 1))", x.run(0, 0, 0), 7);
        check.text(x, 0, "++++77777");
        check.due("7 + 7 + 7 + 7 + 7", x.run(0, 0, 0), 3);
    }

    /** The same sentence, where a value is asked with, gone on with, or comes back. */
    private static void leftOverInAskings() {
        DeedHands x = check.written("0 p+x1", "1 @0p+x1", "00 k+x7", "2 @1+x1", "13 -x1", "3 @0+7px");
        check.run(x, 0, 7, 8, 4, 0, 0, 0, 0, 1);
        check.who(x, 0, 7, 9);
        check.who(x, 0, 6, 79);
        check.run(x, 1, 7, 7, 9, 0, NONE, NONE, 1, 1);
        check.run(x, 1, 0, 0, 9, 0, NONE, NONE, 1, 1);
        check.who(x, 1, 7, 0);
        check.run(x, 2, 7, 7, 7);
        check.run(x, 2, 6, 6, 7);
        check.run(x, 3, 2, 0, 9, 0, NONE, NONE, 1, 1);
        check.replies(x, 7);
        check.text(x, 0, "+1p0");
        check.run(x, 0, 0, 0, 4, 1, NONE, NONE, 0, 1);
    }

    /** "? and three texts (if the first one is 0 the second, else the third)" */
    private static void firstIsNoughtOrElse() {
        DeedHands x = check.written("0 ?x53", "1 ?-x453", "2 ?*x253");
        for (int a = 0; a < 8; a++) {
            check.run(x, 0, a, a == 0 ? 5 : 3, 3);
            check.run(x, 1, a, a == 4 ? 5 : 3, 5);
            check.run(x, 2, a, a % 4 == 0 ? 5 : 3, 5);
        }
    }

    /** "Texts of a text are worked from the left (of ? the first, then the one)." */
    private static void textsAreWorkedFromTheLeft() {
        for (String act : new String[] {"+", "-", "*", "m"}) {
            DeedHands x = check.written("0 " + act + "p1q2", "1 " + act + "r3" + act + "q4p5");
            check.replies(x, 6, 5, 4);
            check.who(x, 0, 0, 19, 129);
            check.who(x, 1, 0, 239, 149, 59);
        }
        DeedHands x = check.written("0 ?p1q2r3", "1 -p0p0");
        check.replies(x, 0, 4);
        check.who(x, 0, 0, 19, 129);
        check.due("the second one's", x.run(0, 0, 0), 4);
        check.due("0 - 4", x.run(1, 0, 0), 4);
        check.due("mute", x.mute(), 2);
        check.replies(x, 7, 4);
        check.who(x, 0, 0, 19, 239);
        check.due("7 - 4", x.run(1, 0, 0), 3);
    }

    /** "each text that is worked is a STEP as it is begun" */
    private static void eachTextIsAStepAsItIsBegun() {
        DeedHands x = check.written("0 ?x+12*+123", "1 p1", "2 +p12", "3 @1@21");
        check.run(x, 0, 0, 3, 5);
        check.run(x, 0, 1, 1, 7);
        check.run(x, 1, 0, 8, 2, 0, 0, 1, 0, 1);
        // The second text of the sum is never begun.
        check.run(x, 2, 0, 8, 3, 0, 0, 1, 0, 1);
        check.replies(x, 5);
        check.run(x, 2, 0, 7, 4, 1, NONE, NONE, 0, 1);
        check.run(x, 3, 0, 1, 3);
        // What goes on is not begun anew.
        x = check.written("0 @0+++p1111", "00 +k1k2");
        check.run(x, 0, 0, 1, 17, 0, NONE, NONE, 2, 1);
    }

    private static void tail(String ahead, String tail, int... due) {
        DeedHands x = check.written(COUNTS, "20 6", "23 x", "31 k3", "32 kx", "0 " + ahead + tail);
        check.replies(x, 6);
        check.run(x, 0, 1, due);
    }

    /** "behind 200 STEPS the RUN is SPENT": the 200th is still worked, whatever it is. */
    private static void behind200Steps() {
        tail(LEFT_4, "@1@14", 4, 199, 0, NONE, NONE, 0, 28);
        tail(LEFT_4, "@1@1@14", 4, 200, 0, NONE, NONE, 0, 28);
        tail(LEFT_4, "@1@1@1x", 1, 200, 0, NONE, NONE, 0, 28);
        tail(LEFT_4, "+@114", 5, 200, 0, NONE, NONE, 0, 28);
        tail(LEFT_4, "?@1034", 3, 200, 0, NONE, NONE, 0, 28);
        tail(LEFT_4, "?@1134", 4, 200, 0, NONE, NONE, 0, 28);
        tail(LEFT_4, "@2p1", 6, 200, 0, NONE, NONE, 0, 29);
        tail(LEFT_4, "@1@25", 5, 200, 0, NONE, NONE, 0, 28);
        tail(LEFT_11, "++00+0+0+03", 3, 200, 0, NONE, NONE, 0, 27);
        tail(LEFT_18, "+q2+++00+00++00+03", 1, 200, 1, NONE, NONE, 0, 27);
    }

    /** "as one more is begun": the same texts, one step further. */
    private static void spentAsOneMoreIsBegun() {
        tail(LEFT_4, "@1@1@1@14", 9, 200, 0, NONE, NONE, 0, 28);
        tail(LEFT_4, "@1@1@1@1x", 9, 200, 0, NONE, NONE, 0, 28);
        tail(LEFT_4, "+@1@114", 9, 200, 0, NONE, NONE, 0, 28);
        tail(LEFT_4, "?@1@1034", 9, 200, 0, NONE, NONE, 0, 28);
        tail(LEFT_4, "?@1@1134", 9, 200, 0, NONE, NONE, 0, 28);
        // The asking is one, and its clause would be the step.
        tail(LEFT_4, "@1@2p1", 9, 200, 0, NONE, NONE, 0, 29);
        tail(LEFT_4, "@1@1@25", 9, 200, 0, NONE, NONE, 0, 28);
        tail(LEFT_4, "@1@1@1p1", 9, 200, 0, NONE, NONE, 0, 28);
        tail(LEFT_11, "++00+0+0+0@13", 9, 200, 0, NONE, NONE, 0, 27);
        tail(LEFT_18, "+q2+++00+00++00+0@13", 9, 200, 1, NONE, NONE, 0, 27);
    }

    /** What is no STEP may still come behind the 200th: answers, goings on, ends. */
    private static void whatNeedsNoStepBehind200() {
        tail(LEFT_4, "@1@1q1", 6, 200, 1, NONE, NONE, 0, 29);
        tail(LEFT_4, "@1qq1", 8, 200, 1, 1, 6, 0, 30);
        tail(LEFT_4, "qqq1", 8, 200, 1, 1, 6, 0, 30);
        tail(LEFT_11, "++0+00@3q5", 3, 200, 0, NONE, NONE, 1, 28);
        // The text of k is the step that is one more, so it does not go on.
        tail(LEFT_11, "++0+0@10@3q5", 9, 200, 0, NONE, NONE, 0, 28);
        // It goes on, and then one more is begun.
        tail(LEFT_11, "+@1+00@3+q51", 9, 200, 0, NONE, NONE, 1, 28);
        tail(LEFT_11, "++00@3+q51", 4, 200, 0, NONE, NONE, 1, 28);
    }

    /** "its CLAUSE for BACK, if it has one, is worked with that value as ARGUMENT ..; else the value itself." */
    private static void backOrTheValueItself() {
        DeedHands x = check.written("0 @0x", "1 @1x", "13 +xx", "2 @1@0@1x", "00 5", "10 5");
        for (int a = 0; a < 8; a++) {
            check.run(x, 0, a, a, 2);
            check.run(x, 1, a, 2 * a % 8, 5);
            check.run(x, 2, a, 4 * a % 8, 10);
        }
        check.due("drop", x.drop(1, 3), 3);
        check.run(x, 1, 3, 3, 2);
    }

    /** "beside the HAND": neither BACK's nor a deed's clause is within the hand itself. */
    private static void besideTheHand() {
        DeedHands x = check.written("0 @0p1", "00 p+x1", "1 @0x", "03 px", "2 @1@0p1", "3 @1@0x", "10 7");
        check.who(x, 0, 0, 10, 29);
        check.who(x, 1, 5, 59);
        check.who(x, 2, 0, 10, 21);
        check.who(x, 3, 5, 51);
        // What a clause comes to is what the hand's text comes to: BACK is not worked for it.
        check.due("it comes past back", x.run(2, 0, 0), 7);
        check.due("drop", x.drop(0, 0), 4);
        check.clause(x, 0, 0, "4");
        check.run(x, 0, 0, 4, 4);
    }

    /** "the nearest one that has a CLAUSE for that DEED answers" */
    private static void theNearestHandThatHasAClause() {
        String text = "0 @3@2@1@0q4";
        check.who(check.written(text), 0, 0, 149);
        check.who(check.written(text, "31 7"), 0, 0, 143);
        check.who(check.written(text, "31 7", "11 5"), 0, 0, 141);
        check.who(check.written(text, "31 7", "11 5", "01 4"), 0, 0, 140);
        check.who(check.written(text, "31 7", "00 5", "02 4", "03 6"), 0, 0, 143);
        // The same hand twice: the nearer one goes, the farther one stays.
        check.who(check.written("0 @0@0p4", "00 p1"), 0, 0, 40, 10, 19);
        // A hand that stands beside is not one within which it is worked.
        check.who(check.written("0 +@01p4", "00 5"), 0, 0, 49);
        check.who(check.written("0 ?@00p4@0p5", "00 5"), 0, 0, 49);
    }

    /** "all that waits from the asking out to that HAND, that included, is KEPT" */
    private static void keptOutToThatHand() {
        // Never gone on with: all between goes, all beyond stays.
        DeedHands x = check.written("0 +1@0+2@1+4p0", "00 7");
        check.run(x, 0, 0, 0, 11, 0, NONE, NONE, 0, 1);
        x = check.written("0 +1@0+2@1+4p0", "10 7");
        check.run(x, 0, 0, 2, 11, 0, NONE, NONE, 0, 1);
        x = check.written("0 +1@0+2@1+4p0", "00 7", "13 0", "03 0");
        check.run(x, 0, 0, 0, 11, 0, NONE, NONE, 0, 1);
        x = check.written("0 +1@0+2@1+4p0", "10 7", "13 0", "03 x");
        check.run(x, 0, 0, 2, 12, 0, NONE, NONE, 0, 1);
    }

    /** "all that was KEPT waits again (the HAND, too)" */
    private static void theHandWaitsAgain() {
        DeedHands x = check.written("0 @0+p1p2", "00 kx");
        check.who(x, 0, 0, 10, 20);
        check.run(x, 0, 0, 3, 10, 0, NONE, NONE, 2, 2);
        // A hand between comes back with it.
        x = check.written("0 @1@0+p1q2", "10 kx", "01 kx");
        check.who(x, 0, 0, 11, 120);
        // Its clause for BACK is worked each time that what was kept comes back.
        x = check.written("0 @0p1", "00 +k1k2", "03 +x1");
        check.run(x, 0, 0, 5, 14, 0, NONE, NONE, 2, 1);
    }

    /** "just as it was, around the asking, and the asking is answered with k's value" */
    private static void justAsItWas() {
        // The act holds its first value each time, and the text its own argument.
        DeedHands x = check.written("0 @0+*2p1x", "00 +kxk3");
        check.run(x, 0, 5, 2, 13, 0, NONE, NONE, 2, 1);
        // Gone on with once more after what was laid down has changed.
        x = check.written("0 @0-p1p2", "00 -kxk0");
        check.run(x, 0, 0, 0, 23, 0, NONE, NONE, 6, 3);
    }

    /** "what comes of it all, out to the HAND, is what k comes to" */
    private static void whatKComesTo() {
        // BACK is worked ahead of that; what waits beyond the hand is not part of it.
        DeedHands x = check.written("0 @0+2p1", "1 +7@0+2p1", "00 *2k3", "03 +x1");
        check.run(x, 0, 0, 4, 12, 0, NONE, NONE, 1, 1);
        check.run(x, 1, 0, 3, 14, 0, NONE, NONE, 1, 1);
        // What goes on asks the same hand again, which never goes on: k comes to what that clause comes to.
        x = check.written("0 @0+p1q2", "00 +1k0", "01 5");
        check.run(x, 0, 0, 6, 11, 0, NONE, NONE, 1, 2);
        check.who(x, 0, 0, 10, 120);
        // Behind k the clause has its own argument.
        x = check.written("0 @0p5", "00 +kxx", "03 +x1");
        check.run(x, 0, 2, 3, 10, 0, NONE, NONE, 1, 1);
        // An asking of what goes on that a hand farther out answers takes the waiting clause along.
        x = check.written("0 @1@0+p1q2", "00 *3kx", "11 +k1k2");
        check.run(x, 0, 0, 7, 16, 0, NONE, NONE, 3, 2);
        check.who(x, 0, 0, 10, 121);
    }

    /** "what it comes to is what that HAND's text comes to" */
    private static void whatAClauseComesTo() {
        DeedHands x = check.written("0 -6@0*3p1", "1 @1@0p1", "00 4", "03 7", "13 +x1");
        check.run(x, 0, 0, 2, 8, 0, NONE, NONE, 0, 1);
        check.run(x, 1, 0, 5, 8, 0, NONE, NONE, 0, 1);
        x = check.written("0 ?@0p123", "1 p@0q4", "00 x", "01 -xx");
        check.run(x, 0, 0, 3, 6, 0, NONE, NONE, 0, 1);
        check.run(x, 1, 0, 8, 7, 0, 0, 0, 0, 2);
    }

    /** "Its k GOES ON": a clause's k is its own, whatever other clauses stand within it or around it. */
    private static void kOfItsOwnClause() {
        // Within hand 1 the clause of p asks q; that clause goes on to p's, which goes on to the text.
        DeedHands x = check.written("0 @0+1p2", "00 @1kqx", "11 *3k+x1");
        check.run(x, 0, 0, 4, 15, 0, NONE, NONE, 2, 2);
        check.who(x, 0, 0, 20, 121);
        // The same hand is asked from its own clause by another one of itself around.
        x = check.written("0 @0@0+1p2", "00 kp+x1");
        check.run(x, 0, 0, 8, 16, 0, 0, 4, 0, 3);
        check.who(x, 0, 0, 20, 30, 49);
        check.replies(x, 5);
        check.run(x, 0, 0, 6, 16, 1, NONE, NONE, 2, 3);
    }

    /** "A CLAUSE may GO ON never, once or often" */
    private static void neverOnceOrOften() {
        String[] clauses = {"6", "k1", "+k1k1", "++k1k1k1", "+++k1k1k1k1"};
        for (int n = 0; n < clauses.length; n++) {
            DeedHands x = check.written("0 @0+2p0", "00 " + clauses[n]);
            check.due("goings on", x.run(0, 0, 5), n);
            check.due("end", x.run(0, 0, 0), n == 0 ? 6 : 3 * n % 8);
        }
        DeedHands x = check.written("0 @0+2p0", "00 ?x+k1k27");
        check.due("as its argument says", x.run(0, 0, 5), 2);
        check.text(x, 0, "@0+2p1");
        check.due("or never", x.run(0, 0, 5), 0);
    }

    /** "Behind 40 GOINGS ON the RUN is SPENT as one more begins." */
    private static void behind40GoingsOn() {
        String four = "0 +@0p0+@0p0+@0p0+@0p0@1p0";
        DeedHands x = check.written(four, "00 kkkkkkkkk0", "10 kkk3");
        check.run(x, 0, 0, 3, 63, 0, NONE, NONE, 39, 5);
        x = check.written(four, "00 kkkkkkkkk0", "10 kkkk3");
        check.run(x, 0, 0, 3, 64, 0, NONE, NONE, 40, 5);
        x = check.written(four, "00 kkkkkkkkk0", "10 kkkkk3");
        check.run(x, 0, 0, 9, 65, 0, NONE, NONE, 40, 5);
        x = check.written(four, "00 kkkkkkkkk0", "10 kkkkkk3");
        check.run(x, 0, 0, 9, 66, 0, NONE, NONE, 40, 5);
        // Behind 40 what asks for no more goes on to its end, asks nobody or asks a hand.
        x = check.written("0 +@0p0+@0p0+@0p0+@0p0+@1p0@2q1", "00 kkkkkkkkk0", "10 kkkk3", "21 5");
        check.run(x, 0, 0, 0, 69, 0, NONE, NONE, 40, 6);
        x = check.written("0 +@0p0+@0p0+@0p0+@0p0+@1p0q1", "00 kkkkkkkkk0", "10 kkkk3");
        check.run(x, 0, 0, 8, 67, 0, 1, 1, 40, 6);
        x = check.written("0 +@0p0+@0p0+@0p0+@0p0+@1p0@2q1", "00 kkkkkkkkk0", "10 kkkk3", "21 k5");
        check.run(x, 0, 0, 9, 70, 0, NONE, NONE, 40, 6);
    }

    private static void both(String goings, String last, int... due) {
        String text = "0 +@1p0+@1p0+@1p0+@1p0+@2p0@3q0";
        DeedHands x = check.written(COUNTS, "10 kkkkkkkkk0", "20 " + goings, "31 " + last, text);
        check.run(x, 0, 0, due);
    }

    /** Both limits in one run: each counts by itself, and both may be reached without being passed. */
    private static void goingsOnAndStepsTogether() {
        both("kkkk3", "++@0p7@0p7@0p1", 3, 193, 0, NONE, NONE, 40, 24);
        both("kkkk3", "++@0p7@0p7@0p2", 3, 200, 0, NONE, NONE, 40, 25);
        both("kkkk3", "++@0p7@0p7@3@0p2", 9, 200, 0, NONE, NONE, 40, 25);
        // The last k has its value at the 200th step.
        both("kkk3", "++@0p7@0p6k+@0p2+0+0@10", 3, 200, 0, NONE, NONE, 40, 24);
        both("kkkk3", "++@0p7@0p6k+@0p2+0+00", 9, 200, 0, NONE, NONE, 40, 24);
        both("kkk3", "++@0p7@0p6k+@0p2+0+0@1@10", 9, 200, 0, NONE, NONE, 39, 24);
    }

    /** "REPLIES (0 to 7 ..)": "OUTSIDE" */
    private static void repliesFrom0To7() {
        DeedHands x = check.written("0 p0");
        for (int v = 0; v < 8; v++) {
            check.due("reply(" + v + ")", x.reply(v), 1);
            check.run(x, 0, 0, v, 2, 1);
            check.due("mute", x.mute(), 1);
        }
        check.due("reply(-1)", x.reply(-1), OUTSIDE);
        check.due("reply(8)", x.reply(8), OUTSIDE);
        for (int v : FAR) {
            check.due("reply(" + v + ")", x.reply(v), OUTSIDE);
        }
        check.due("none came", x.told(1), 0);
    }

    /** "8 at most": "A REPLY more: how many. .. FULL." */
    private static void eightRepliesAtMost() {
        DeedHands x = check.written("0 pppppppp0", "1 qpppppppp0");
        for (int round = 0; round < 2; round++) {
            for (int n = 1; n <= 8; n++) {
                check.due("reply " + n, x.reply(8 - n), n);
                check.due("replies", x.told(1), n);
            }
            for (int v = 0; v < 8; v++) {
                check.due("reply 9", x.reply(v), DeedHands.FULL);
            }
            check.due("still 8", x.told(1), 8);
            check.run(x, 0, 0, 0, 9, 8, NONE, NONE, 0, 8);
            check.run(x, 1, 0, 8, 10, 8, 1, 0, 0, 9);
            check.who(x, 1, 0, 9, 79, 69, 59, 49, 39, 29, 19, 109);
            check.due("mute", x.mute(), 8);
        }
    }

    /** "REPLIES go: how many there were." */
    private static void muteTellsHowMany() {
        DeedHands x = check.written("0 +p0p0");
        for (int many = 0; many <= 8; many++) {
            for (int n = 0; n < many; n++) {
                check.replies(x, 3);
            }
            check.due("mute", x.mute(), many);
            check.due("they are gone", x.told(1), 0);
            check.due("mute again", x.mute(), 0);
            check.run(x, 0, 0, 8, 3, 0, 0, 0, 0, 1);
        }
        check.replies(x, 5);
        check.run(x, 0, 0, 8, 5, 1, 0, 0, 0, 2);
    }

    /** "by a row of REPLIES .. one behind another": from the first one on in each RUN. */
    private static void oneBehindAnother() {
        DeedHands x = check.written("0 -p0q0", "1 @0+r1p2", "02 +k1k2");
        check.replies(x, 6, 1, 3);
        for (int again = 0; again < 2; again++) {
            check.run(x, 0, 0, 5, 5, 2, NONE, NONE, 0, 2);
            // What goes on again takes the next reply, not the same one.
            check.run(x, 1, 0, 2, 13, 2, NONE, NONE, 2, 3);
            check.who(x, 1, 0, 210, 29, 29);
        }
        check.due("they stay", x.told(1), 3);
    }

    /** "when they are used up the RUN ENDS with the asking" */
    private static void whenTheyAreUsedUp() {
        for (int many = 0; many <= 8; many++) {
            DeedHands x = check.written("0 rpqrpqrpq7");
            int[] askings = new int[Math.min(many + 1, 9)];
            for (int n = 0; n < many; n++) {
                check.replies(x, n);
            }
            for (int n = 0; n < askings.length; n++) {
                askings[n] = 100 * (n % 3 == 0 ? 1 : n % 3 == 1 ? 0 : 2) + 10 * (n == 0 ? 7 : n - 1) + 9;
            }
            check.run(x, 0, 0, 8, 10, many, askings[many] / 100, askings[many] / 10 % 10, 0, many + 1);
            check.who(x, 0, 0, askings);
        }
    }

    /** "A RUN ENDS with a value (0 to 7), ASKING (8) or SPENT (9)." */
    private static void eachEnd() {
        DeedHands x = check.written("0 x", "1 rx", "2 @0px", "00 @0px");
        for (int a = 0; a < 8; a++) {
            check.run(x, 0, a, a, 1, 0, NONE, NONE, 0, 0);
            check.run(x, 1, a, 8, 2, 0, 2, a, 0, 1);
            check.run(x, 2, a, 9, 200, 0, NONE, NONE, 0, 66);
        }
    }

    /** "UNKNOWN; OUTSIDE: ARGUMENT, what." */
    private static void runNumbers() {
        DeedHands x = check.written("0 x", "3 x");
        for (int text : new int[] {0, 3}) {
            for (int argument : new int[] {0, 7}) {
                check.due("run(" + text + ", " + argument + ", 0)", x.run(text, argument, 0), argument);
                check.due("run(" + text + ", " + argument + ", 6)", x.run(text, argument, 6), 0);
                check.due("what -1", x.run(text, argument, -1), OUTSIDE);
                check.due("what 7", x.run(text, argument, 7), OUTSIDE);
            }
            check.due("argument -1", x.run(text, -1, 0), OUTSIDE);
            check.due("argument 8", x.run(text, 8, 0), OUTSIDE);
            check.due("both", x.run(text, 8, 7), OUTSIDE);
        }
        for (int text : new int[] {-1, 4}) {
            check.due("text " + text, x.run(text, 0, 0), UNKNOWN);
            check.due("and argument -1", x.run(text, -1, 0), UNKNOWN);
            check.due("and argument 8", x.run(text, 8, 0), UNKNOWN);
            check.due("and what -1", x.run(text, 0, -1), UNKNOWN);
            check.due("and what 7", x.run(text, 0, 7), UNKNOWN);
        }
        for (int far : FAR) {
            check.due("text " + far, x.run(far, 0, 0), UNKNOWN);
            check.due("argument " + far, x.run(0, far, 0), OUTSIDE);
            check.due("what " + far, x.run(0, 0, far), OUTSIDE);
        }
    }

    /** "3 the DEED that it ASKS for (NONE: it does not END so), 4 with which value (NONE)" */
    private static void whatIsToldOfARun() {
        for (int deed = 0; deed < 3; deed++) {
            for (int value = 0; value < 8; value += 7) {
                DeedHands x = check.written("0 " + "pqr".charAt(deed) + "x", "1 +1" + "pqr".charAt(deed) + "x");
                check.run(x, 0, value, 8, 2, 0, deed, value, 0, 1);
                check.replies(x, 2);
                check.run(x, 0, value, 2, 2, 1, NONE, NONE, 0, 1);
                check.run(x, 1, value, 3, 4, 1, NONE, NONE, 0, 1);
            }
        }
        // It is of this run, not of one ahead.
        DeedHands x = check.written("0 r5", "1 @0px", "00 @0px");
        check.run(x, 0, 0, 8, 2, 0, 2, 5, 0, 1);
        check.run(x, 1, 0, 9, 200, 0, NONE, NONE, 0, 66);
        check.run(x, 2, 0, 0, 1, 0, NONE, NONE, 0, 0);
    }

    /** "UNKNOWN; OUTSIDE: i 0 to 199, too." */
    private static void whoNumbers() {
        DeedHands x = check.written("0 px", "3 px");
        for (int text : new int[] {0, 3}) {
            for (int argument : new int[] {0, 7}) {
                check.due("i 0", x.who(text, argument, 0), 10 * argument + 9);
                check.due("i 199", x.who(text, argument, 199), NONE);
                check.due("i -1", x.who(text, argument, -1), OUTSIDE);
                check.due("i 200", x.who(text, argument, 200), OUTSIDE);
            }
            check.due("argument -1", x.who(text, -1, 0), OUTSIDE);
            check.due("argument 8", x.who(text, 8, 0), OUTSIDE);
            check.due("argument 8, without such an asking", x.who(text, 8, 199), OUTSIDE);
        }
        for (int text : new int[] {-1, 4}) {
            check.due("text " + text, x.who(text, 0, 0), UNKNOWN);
            check.due("and argument -1", x.who(text, -1, 0), UNKNOWN);
            check.due("and argument 8", x.who(text, 8, 0), UNKNOWN);
            check.due("and i -1", x.who(text, 0, -1), UNKNOWN);
            check.due("and i 200", x.who(text, 0, 200), UNKNOWN);
        }
        for (int far : FAR) {
            check.due("text " + far, x.who(far, 0, 0), UNKNOWN);
            check.due("argument " + far, x.who(0, far, 0), OUTSIDE);
            check.due("i " + far, x.who(0, 0, far), OUTSIDE);
        }
    }

    /** "100 times the DEED, 10 times its value, and the HAND; 9: NOBODY (also, if no REPLY is left)" */
    private static void whoTells() {
        for (int deed = 0; deed < 3; deed++) {
            char sign = "pqr".charAt(deed);
            for (int hand = 0; hand < 4; hand++) {
                DeedHands x = check.written("0 @" + hand + sign + "x", hand + "" + deed + " x");
                check.who(x, 0, 0, 100 * deed + hand);
                check.who(x, 0, 7, 100 * deed + 70 + hand);
            }
            DeedHands x = check.written("0 " + sign + "x");
            check.who(x, 0, 0, 100 * deed + 9);
            check.who(x, 0, 7, 100 * deed + 79);
            check.replies(x, 3);
            check.who(x, 0, 7, 100 * deed + 79);
        }
    }

    /** "NONE": there is no i-th asking. */
    private static void whoBehindTheLast() {
        DeedHands x = check.written("0 pppp0", "1 @0px", "00 @0px");
        check.due("no asking", x.who(2, 0, 0), NONE);
        check.due("the first one", x.who(0, 0, 0), 9);
        check.due("no second one", x.who(0, 0, 1), NONE);
        check.replies(x, 1, 2, 3, 4);
        check.who(x, 0, 0, 9, 19, 29, 39);
        for (int i = 0; i < 200; i++) {
            check.due("asking " + i, x.who(1, 7, i), i < 66 ? 70 : NONE);
        }
        check.due("fewer askings again", x.who(0, 0, 4), NONE);
        check.due("and none", x.who(2, 0, 0), NONE);
    }
}
