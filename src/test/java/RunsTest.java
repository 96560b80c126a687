/** Promises 9 to 12: replies, runs and who answers. The dues are worked out by hand from the document. */
public final class RunsTest {
    private static final int NONE = DeedHands.NONE;
    private static final Check check = new Check();

    public static void main(String[] args) {
        replies();
        acts();
        asksNobody();
        neverGoesOn();
        comesBack();
        nearestHand();
        beside();
        goesOnOften();
        goesOnWithinAHand();
        keepsWhatKeeps();
        stepsToTheLimit();
        goingsToTheLimit();
        wrong();
        check.end("RunsTest");
    }

    private static void replies() {
        DeedHands x = new DeedHands();
        for (int v : new int[] {-1, 8, Integer.MIN_VALUE, Integer.MAX_VALUE}) {
            check.due("reply(" + v + ")", x.reply(v), DeedHands.OUTSIDE);
        }
        for (int n = 1; n <= 8; n++) {
            check.due("reply " + n, x.reply(n % 8), n);
        }
        check.due("one reply too many", x.reply(0), DeedHands.FULL);
        check.due("outside comes ahead of full", x.reply(8), DeedHands.OUTSIDE);
        check.text(x, 0, "ppppppppp5");
        check.run(x, 0, 0, 8, 10, 8, 0, 0, 0, 9);
        check.who(x, 0, 0, 59, 19, 29, 39, 49, 59, 69, 79, 9);
        check.text(x, 0, "pppppppp5");
        check.run(x, 0, 0, 0, 9, 8, NONE, NONE, 0, 8);
        check.due("mute", x.mute(), 8);
        check.due("mute again", x.mute(), 0);
        check.run(x, 0, 0, 8, 9, 0, 0, 5, 0, 1);
        check.due("reply behind mute", x.reply(3), 1);
        check.run(x, 0, 0, 8, 9, 1, 0, 3, 0, 2);
    }

    private static void acts() {
        DeedHands x = new DeedHands();
        check.text(x, 0, "+x5");
        check.run(x, 0, 6, 3, 3, 0, NONE, NONE, 0, 0);
        check.text(x, 0, "-2x");
        check.run(x, 0, 5, 5, 3);
        check.run(x, 0, 1, 1, 3);
        check.text(x, 0, "*xx");
        check.run(x, 0, 3, 1, 3);
        check.run(x, 0, 2, 4, 3);
        check.text(x, 0, "mx4");
        check.run(x, 0, 6, 4, 3);
        check.run(x, 0, 1, 1, 3);
        check.text(x, 0, "?x1+02");
        check.run(x, 0, 0, 1, 3);
        check.run(x, 0, 7, 2, 5);
    }

    private static void asksNobody() {
        DeedHands x = new DeedHands();
        check.text(x, 0, "?xp1@0q2");
        check.run(x, 0, 0, 8, 4, 0, 0, 1, 0, 1);
        check.run(x, 0, 1, 8, 5, 0, 1, 2, 0, 1);
        check.who(x, 0, 1, 129);
        check.text(x, 1, "-p1r2");
        x.reply(1);
        check.run(x, 1, 0, 8, 5, 1, 2, 2, 0, 2);
        x.reply(3);
        check.run(x, 1, 0, 6, 5, 2, NONE, NONE, 0, 2);
        check.who(x, 1, 0, 19, 229);
        check.due("the replies stay", x.told(1), 2);
    }

    private static void neverGoesOn() {
        DeedHands x = new DeedHands();
        check.text(x, 0, "@0+1p2");
        check.clause(x, 0, 0, "+x3");
        check.run(x, 0, 0, 5, 8, 0, NONE, NONE, 0, 1);
        check.who(x, 0, 0, 20);
        // What a clause comes to does not come back through its hand.
        check.clause(x, 0, 3, "7");
        check.run(x, 0, 0, 5, 8, 0, NONE, NONE, 0, 1);
    }

    private static void comesBack() {
        DeedHands x = new DeedHands();
        check.text(x, 0, "@04");
        check.run(x, 0, 0, 4, 2);
        check.clause(x, 0, 3, "+x7");
        check.run(x, 0, 0, 3, 5);
        check.text(x, 1, "@0p2");
        check.clause(x, 0, 0, "+1kx");
        check.clause(x, 0, 3, "+x4");
        check.run(x, 1, 0, 7, 10, 0, NONE, NONE, 1, 1);
    }

    private static void nearestHand() {
        DeedHands x = new DeedHands();
        check.text(x, 0, "@1@0+p3q0");
        check.clause(x, 1, 0, "kx");
        check.clause(x, 0, 1, "5");
        check.run(x, 0, 0, 5, 10, 0, NONE, NONE, 1, 2);
        check.who(x, 0, 0, 31, 100);
        check.clause(x, 0, 0, "6");
        check.run(x, 0, 0, 6, 6, 0, NONE, NONE, 0, 1);
        check.who(x, 0, 0, 30);
        check.due("drop", x.drop(0, 0), 1);
        check.due("drop", x.drop(1, 0), 2);
        x.reply(1);
        check.who(x, 0, 0, 39, 100);
    }

    private static void beside() {
        DeedHands x = new DeedHands();
        check.text(x, 0, "@0p3");
        check.clause(x, 0, 0, "p+x1");
        check.run(x, 0, 0, 8, 7, 0, 0, 4, 0, 2);
        check.who(x, 0, 0, 30, 49);
        check.text(x, 1, "@1@0p3");
        check.clause(x, 1, 0, "6");
        check.run(x, 1, 0, 6, 9, 0, NONE, NONE, 0, 2);
        check.who(x, 1, 0, 30, 41);
        check.text(x, 2, "@02");
        check.clause(x, 0, 3, "px");
        check.run(x, 2, 0, 8, 4, 0, 0, 2, 0, 1);
        check.who(x, 2, 0, 29);
    }

    private static void goesOnOften() {
        DeedHands x = new DeedHands();
        check.text(x, 0, "@0+5p1");
        check.clause(x, 0, 0, "*k1k2");
        check.run(x, 0, 0, 2, 10, 0, NONE, NONE, 2, 1);
        // The first going on ends with another second value; the second one finds all as it was.
        check.text(x, 0, "@0+p1q2");
        check.clause(x, 0, 0, "-k1k1");
        check.clause(x, 0, 1, "+kxk0");
        check.run(x, 0, 0, 0, 23, 0, NONE, NONE, 6, 3);
        check.who(x, 0, 0, 10, 120, 120);
        // The argument of what goes on is its own, not the clause's.
        check.text(x, 0, "@0+xp1");
        check.clause(x, 0, 0, "k+x1");
        check.run(x, 0, 4, 6, 9, 0, NONE, NONE, 1, 1);
    }

    private static void goesOnWithinAHand() {
        DeedHands x = new DeedHands();
        check.text(x, 0, "@1p0");
        check.clause(x, 1, 0, "@2k3");
        check.clause(x, 2, 3, "+x1");
        check.run(x, 0, 0, 4, 9, 0, NONE, NONE, 1, 1);
        check.text(x, 0, "@1qp0");
        check.clause(x, 2, 1, "k+x1");
        check.run(x, 0, 0, 5, 14, 0, NONE, NONE, 2, 2);
        check.who(x, 0, 0, 1, 132);
    }

    private static void keepsWhatKeeps() {
        DeedHands x = new DeedHands();
        check.text(x, 0, "@1@0p1");
        check.clause(x, 0, 0, "+qxkx");
        check.clause(x, 1, 1, "+k1k2");
        check.run(x, 0, 0, 5, 16, 0, NONE, NONE, 4, 2);
        check.who(x, 0, 0, 10, 111);
    }

    private static void stepsToTheLimit() {
        DeedHands x = new DeedHands();
        check.clause(x, 0, 0, "?x0@0p-x1");
        String most = "+@0p7+@0p7+@0p7+@0p3";
        check.text(x, 0, most + "@1@1@14");
        check.run(x, 0, 0, 4, 200, 0, NONE, NONE, 0, 28);
        check.text(x, 0, most + "@1@1@1@14");
        check.run(x, 0, 0, 9, 200, 0, NONE, NONE, 0, 28);
        // The asking comes with the last step, and the clause would be one more.
        check.text(x, 0, most + "@1@0p7");
        check.run(x, 0, 0, 9, 200, 0, NONE, NONE, 0, 29);
        check.due("who answers it", x.who(0, 0, 28), 70);
        check.due("no asking more", x.who(0, 0, 29), NONE);
        // With the last step the run may still end by asking.
        check.text(x, 0, most + "@1@1p7");
        check.run(x, 0, 0, 8, 200, 0, 0, 7, 0, 29);
        check.due("nobody answers it", x.who(0, 0, 28), 79);
        check.clause(x, 0, 0, "@0px");
        check.text(x, 0, "@0p5");
        check.run(x, 0, 0, 9, 200, 0, NONE, NONE, 0, 66);
        for (int i = 0; i < 66; i++) {
            check.due("asking " + i, x.who(0, 0, i), 50);
        }
        check.due("no asking more", x.who(0, 0, 66), NONE);
    }

    private static void goingsToTheLimit() {
        DeedHands x = new DeedHands();
        check.clause(x, 0, 0, "kkkkkkkkk0");
        check.clause(x, 1, 0, "kkkk3");
        check.text(x, 0, "+@0p0+@0p0+@0p0+@0p0@1p0");
        check.run(x, 0, 0, 3, 64, 0, NONE, NONE, 40, 5);
        check.clause(x, 1, 0, "kkkkk3");
        check.run(x, 0, 0, 9, 65, 0, NONE, NONE, 40, 5);
    }

    private static void wrong() {
        DeedHands x = new DeedHands();
        int[] odd = {-1, 8, Integer.MIN_VALUE, Integer.MAX_VALUE};
        for (int bad : odd) {
            check.due("text " + bad, x.run(bad, 0, 0), DeedHands.UNKNOWN);
            check.due("text and all else " + bad, x.run(bad, bad, bad), DeedHands.UNKNOWN);
            check.due("argument " + bad, x.run(0, bad, 0), DeedHands.OUTSIDE);
            check.due("what " + bad, x.run(0, 0, bad), DeedHands.OUTSIDE);
            check.due("who text " + bad, x.who(bad, bad, bad), DeedHands.UNKNOWN);
            check.due("who argument " + bad, x.who(0, bad, 0), DeedHands.OUTSIDE);
        }
        check.due("run(4, 0, 0)", x.run(4, 0, 0), DeedHands.UNKNOWN);
        check.due("run(0, 0, 7)", x.run(0, 0, 7), DeedHands.OUTSIDE);
        check.due("who(4, 0, 0)", x.who(4, 0, 0), DeedHands.UNKNOWN);
        check.due("who(0, 0, -1)", x.who(0, 0, -1), DeedHands.OUTSIDE);
        check.due("who(0, 0, 199)", x.who(0, 0, 199), NONE);
        check.due("who(0, 0, 200)", x.who(0, 0, 200), DeedHands.OUTSIDE);
    }
}
