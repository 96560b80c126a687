/** Promises 1 to 8 and 18: the pad, the fault, the texts and the hands. */
public final class TextsTest {
    private static final int NONE = DeedHands.NONE;
    private static final Check check = new Check();

    public static void main(String[] args) {
        newObject();
        signs();
        faults();
        deepFaults();
        fullFault();
        texts();
        clauses();
        drops();
        told();
        check.end("TextsTest");
    }

    private static void newObject() {
        DeedHands x = new DeedHands();
        check.due("signs of a new object", x.told(0), 0);
        check.due("replies of a new object", x.told(1), 0);
        for (int n = 0; n < 4; n++) {
            check.due("signs of text " + n, x.told(10 + n), 1);
            check.due("clauses of hand " + n, x.has(n), 0);
            for (int argument = 0; argument < 8; argument++) {
                check.run(x, n, argument, 0, 1, 0, NONE, NONE, 0, 0);
            }
            check.due("may of text " + n, x.may(-1, n), 0);
        }
        check.due("fault of an empty pad", x.fault(0), 0);
        check.due("wipe of an empty pad", x.wipe(), 0);
        check.due("mute without replies", x.mute(), 0);
    }

    private static void signs() {
        DeedHands x = new DeedHands();
        for (int sign : new int[] {32, 127, 0, -1, 128, Integer.MIN_VALUE, Integer.MAX_VALUE}) {
            check.due("say(" + sign + ")", x.say(sign), DeedHands.OUTSIDE);
        }
        check.due("say(33)", x.say(33), 1);
        check.due("say(126)", x.say(126), 2);
        check.due("wipe", x.wipe(), 2);
        check.due("wipe again", x.wipe(), 0);
        for (int n = 1; n <= 40; n++) {
            check.due("sign " + n, x.say('x'), n);
        }
        check.due("one sign too many", x.say('x'), DeedHands.FULL);
        check.due("outside comes ahead of full", x.say(127), DeedHands.OUTSIDE);
        check.due("signs", x.told(0), 40);
        check.due("wipe", x.wipe(), 40);
        check.due("say behind wipe", x.say('x'), 1);
    }

    private static void faults() {
        DeedHands x = new DeedHands();
        check.faults(x, "", 0, 0);
        check.faults(x, "0", NONE, NONE);
        check.faults(x, "7", NONE, NONE);
        check.faults(x, "8", 0, 0);
        check.faults(x, "x", NONE, NONE);
        check.faults(x, "y", 0, 0);
        check.faults(x, "X", 0, 0);
        check.faults(x, "12", 1, 1);
        check.faults(x, "k", 0, 1);
        check.faults(x, "kx", 0, NONE);
        check.faults(x, "+kxkx", 1, NONE);
        check.faults(x, "@0kx", 2, NONE);
        check.faults(x, "+1", 2, 2);
        check.faults(x, "+12", NONE, NONE);
        x = new DeedHands();
        check.faults(x, "-12", NONE, NONE);
        check.faults(x, "*12", NONE, NONE);
        check.faults(x, "m12", NONE, NONE);
        check.faults(x, "+123", 3, 3);
        check.faults(x, "+1!", 2, 2);
        check.faults(x, "?", 1, 1);
        check.faults(x, "?01", 3, 3);
        check.faults(x, "?012", NONE, NONE);
        check.faults(x, "?0123", 4, 4);
        check.faults(x, "pqr0", NONE, NONE);
        check.faults(x, "pqr", 3, 3);
        check.faults(x, "s0", 0, 0);
        check.faults(x, "@", 1, 1);
        check.faults(x, "@0", 2, 2);
        check.faults(x, "@3x", NONE, NONE);
        check.faults(x, "@4x", 1, 1);
        check.faults(x, "@x1", 1, 1);
        check.faults(x, "@@0x", 1, 1);
        check.faults(x, "@0xx", 3, 3);
        for (int how : new int[] {-1, 2, Integer.MIN_VALUE, Integer.MAX_VALUE}) {
            check.due("fault(" + how + ")", x.fault(how), DeedHands.OUTSIDE);
        }
    }

    private static void deepFaults() {
        DeedHands x = new DeedHands();
        check.faults(x, "p".repeat(9) + "0", NONE, NONE);
        check.faults(x, "p".repeat(10) + "0", 9, 9);
        check.faults(x, "+".repeat(9) + "0".repeat(10), NONE, NONE);
        check.faults(x, "+".repeat(10), 9, 9);
        check.faults(x, "+1".repeat(9) + "x", NONE, NONE);
        check.faults(x, "+1".repeat(10) + "x", 18, 18);
        check.faults(x, "@0".repeat(9) + "x", NONE, NONE);
        check.faults(x, "@0".repeat(10) + "x", 18, 18);
        check.faults(x, "@0".repeat(9) + "@", 18, 18);
        x = new DeedHands();
        check.faults(x, "@0".repeat(9) + "k1", 18, 18);
        check.faults(x, "k".repeat(9) + "1", 0, NONE);
        check.faults(x, "k".repeat(10) + "1", 0, 9);
        check.faults(x, "p".repeat(9) + "y", 9, 9);
        // A text that is over lets the next one go as deep again.
        check.faults(x, "+" + "pppppppp0" + "pppppppp0", NONE, NONE);
        check.faults(x, "+" + "pppppppp0" + "ppppppppp0", 18, 18);
        check.faults(x, "?" + "pppppppp0" + "pppppppp0" + "p", 20, 20);
    }

    /** Forty signs, each of which can stand, and still one text must come. */
    private static void fullFault() {
        DeedHands x = new DeedHands();
        String part = "+?" + "?000".repeat(3) + "++000";
        check.say(x, "?" + part + part + "p");
        check.due("signs", x.told(0), 40);
        check.due("fault of a full pad", x.fault(0), 40);
        check.due("text of it", x.text(0), DeedHands.NO);
        check.due("one sign more", x.say('0'), DeedHands.FULL);
    }

    private static void texts() {
        DeedHands x = new DeedHands();
        check.text(x, 0, "+x1");
        check.due("the pad is empty then", x.told(0), 0);
        check.due("its signs", x.told(10), 3);
        check.due("the others stay", x.told(11), 1);
        check.due("it is worked", x.run(0, 4, 0), 5);
        check.due("an empty pad", x.text(0), DeedHands.NO);
        check.due("the text stays", x.run(0, 4, 0), 5);
        check.text(x, 3, "2");
        check.due("text 3", x.run(3, 0, 0), 2);
        check.text(x, 0, "6");
        check.due("a text anew", x.run(0, 4, 0), 6);
        check.due("its signs anew", x.told(10), 1);
        check.say(x, "kx");
        check.due("no k in a text", x.text(1), DeedHands.NO);
        check.due("unknown comes ahead of no", x.text(4), DeedHands.UNKNOWN);
        check.due("text(-1)", x.text(-1), DeedHands.UNKNOWN);
        check.due("the pad stays", x.told(0), 2);
        check.due("the text stays", x.told(11), 1);
    }

    private static void clauses() {
        DeedHands x = new DeedHands();
        check.clause(x, 0, 0, "kx");
        check.due("has one", x.has(0), 1);
        check.due("the pad is empty then", x.told(0), 0);
        check.clause(x, 0, 1, "+kxkx");
        check.clause(x, 0, 2, "3");
        check.clause(x, 0, 3, "+x1");
        check.due("has all", x.has(0), 15);
        check.due("the others have none", x.has(1) + x.has(2) + x.has(3), 0);
        check.clause(x, 3, 2, "x");
        check.due("hand 3", x.has(3), 4);
        check.say(x, "kx");
        check.due("no k for back", x.clause(1, 3), DeedHands.NO);
        check.due("hand 4", x.clause(4, 0), DeedHands.UNKNOWN);
        check.due("hand -1", x.clause(-1, 0), DeedHands.UNKNOWN);
        check.due("deed 4", x.clause(0, 4), DeedHands.UNKNOWN);
        check.due("deed -1", x.clause(0, -1), DeedHands.UNKNOWN);
        check.due("the pad stays", x.told(0), 2);
        check.due("nothing came", x.has(1), 0);
        check.due("wipe", x.wipe(), 2);
        check.due("an empty pad", x.clause(1, 0), DeedHands.NO);
        check.say(x, "++");
        check.due("unknown comes ahead of no", x.clause(4, 3), DeedHands.UNKNOWN);
        check.due("a fault", x.clause(1, 0), DeedHands.NO);
        check.due("has(4)", x.has(4), DeedHands.UNKNOWN);
        check.due("has(-1)", x.has(-1), DeedHands.UNKNOWN);
    }

    private static void drops() {
        DeedHands x = new DeedHands();
        check.clause(x, 2, 1, "+kx1");
        check.clause(x, 2, 3, "x");
        check.due("none to drop", x.drop(2, 0), DeedHands.NO);
        check.due("none of another hand", x.drop(1, 1), DeedHands.NO);
        check.due("drop(4, 0)", x.drop(4, 0), DeedHands.UNKNOWN);
        check.due("drop(-1, 0)", x.drop(-1, 0), DeedHands.UNKNOWN);
        check.due("drop(0, 4)", x.drop(0, 4), DeedHands.UNKNOWN);
        check.due("drop(0, -1)", x.drop(0, -1), DeedHands.UNKNOWN);
        check.due("has both", x.has(2), 10);
        check.due("drop", x.drop(2, 1), 4);
        check.due("has back", x.has(2), 8);
        check.due("drop again", x.drop(2, 1), DeedHands.NO);
        check.due("drop back", x.drop(2, 3), 1);
        check.due("has none", x.has(2), 0);
        check.clause(x, 2, 1, "5");
        check.due("a clause anew", x.has(2), 2);
        check.due("drop it", x.drop(2, 1), 1);
    }

    private static void told() {
        DeedHands x = new DeedHands();
        for (int what : new int[] {-1, 2, 9, 14, Integer.MIN_VALUE, Integer.MAX_VALUE}) {
            check.due("told(" + what + ")", x.told(what), DeedHands.OUTSIDE);
        }
        for (int n = 0; n < 4; n++) {
            check.text(x, n, "p".repeat(n) + "x");
        }
        x.reply(1);
        x.reply(2);
        check.say(x, "+++");
        check.due("signs", x.told(0), 3);
        check.due("replies", x.told(1), 2);
        for (int n = 0; n < 4; n++) {
            check.due("signs of text " + n, x.told(10 + n), n + 1);
        }
    }
}
