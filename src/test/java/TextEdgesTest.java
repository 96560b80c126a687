/**
 * Promises 1 to 8 and 18, each sentence that names a boundary: the last that is taken and the first
 * that is not. Each method stands for one sentence of the document.
 */
public final class TextEdgesTest {
    private static final int NONE = DeedHands.NONE;
    private static final int OUTSIDE = DeedHands.OUTSIDE;
    private static final int UNKNOWN = DeedHands.UNKNOWN;
    private static final int FULL = DeedHands.FULL;
    private static final int NO = DeedHands.NO;
    private static final String LEAVES = "01234567x";
    private static final int[] FAR = {Integer.MIN_VALUE, Integer.MIN_VALUE + 1, -65536, -256, -128, -7, -3, -2,
        128, 256, 65536, 1 << 30, Integer.MAX_VALUE - 1, Integer.MAX_VALUE};
    /** One sign, 19 of a text that is 1, 19 of one that is 0, and the argument: the most signs there are. */
    private static final String ONE = "+?" + "?000".repeat(3) + "++001";
    private static final String NOUGHT = "+?" + "?000".repeat(3) + "++000";
    private static final String FORTY = "?" + ONE + NOUGHT + "x";
    private static final Check check = new Check();

    public static void main(String[] args) {
        allTextsAreNought();
        noClausesNoReplies();
        thePadIsEmpty();
        eachObjectIsItsOwn();
        codes33To126();
        fortySignsAtMost();
        wipeTellsHowMany();
        signsThatBeginAText();
        howManyTextsASignHas();
        handSigns();
        withinNineOthers();
        deepestSecondTexts();
        handSignIsOneSign();
        firstSignThatCanNotStand();
        numberOfSignsIfMoreMustCome();
        behindTheWhole();
        faultHow();
        textNumbers();
        textIsFaultless();
        textsAreWithoutK();
        textOfFortySigns();
        clauseNumbers();
        clauseIsFaultless();
        backIsWithoutK();
        clauseOfFortySigns();
        dropNumbers();
        dropTellsEachSize();
        hasNumbers();
        toldNumbers();
        toldEdges();
        the512thCall();
        check.end("TextEdgesTest");
    }

    /** "All TEXTS are 0" */
    private static void allTextsAreNought() {
        for (int text = 0; text < 4; text++) {
            DeedHands x = new DeedHands();
            check.due("signs of text " + text, x.told(10 + text), 1);
            for (int argument = 0; argument < 8; argument++) {
                check.run(x, text, argument, 0, 1, 0, NONE, NONE, 0, 0);
                check.due("all of it", x.all(text, argument, 4, 2), 1);
            }
            check.due("it may ask", x.may(-1, text), 0);
        }
    }

    /** "no CLAUSES, no REPLIES" */
    private static void noClausesNoReplies() {
        DeedHands x = new DeedHands();
        for (int hand = 0; hand < 4; hand++) {
            check.due("clauses of hand " + hand, x.has(hand), 0);
            for (int part = 0; part < 4; part++) {
                check.due("drop of a new object", x.drop(hand, part), NO);
                check.due("may of a new object", x.may(hand, part), UNKNOWN);
                check.due("often of a new object", x.often(hand, part), UNKNOWN);
            }
        }
        check.due("replies", x.told(1), 0);
        check.text(x, 0, "@0@1@2@3p1");
        check.run(x, 0, 0, 8, 6, 0, 0, 1, 0, 1);
        check.due("mute of a new object", x.mute(), 0);
    }

    /** "the PAD is empty" */
    private static void thePadIsEmpty() {
        DeedHands x = new DeedHands();
        check.due("signs", x.told(0), 0);
        check.due("fault(0)", x.fault(0), 0);
        check.due("fault(1)", x.fault(1), 0);
        check.due("text", x.text(0), NO);
        check.due("clause", x.clause(0, 0), NO);
        check.due("wipe", x.wipe(), 0);
        check.due("the first sign", x.say('0'), 1);
    }

    /** The same sentences, when other objects have texts, clauses, replies and signs: calls in turns. */
    private static void eachObjectIsItsOwn() {
        DeedHands x = check.written("0 @0+p1q2", "00 k+x1", "03 +x1");
        check.replies(x, 5, 6);
        check.say(x, "+x");
        DeedHands y = new DeedHands();
        check.due("signs of the other", y.told(0), 0);
        check.due("replies of the other", y.told(1), 0);
        check.due("text of the other", y.told(10), 1);
        check.due("hands of the other", y.has(0), 0);
        check.run(y, 0, 0, 0, 1, 0, NONE, NONE, 0, 0);
        check.text(y, 0, "@0p3");
        check.clause(y, 0, 0, "6");
        check.replies(y, 1);
        for (int turn = 0; turn < 3; turn++) {
            check.run(x, 0, 0, 0, 13, 1, NONE, NONE, 1, 2);
            check.run(y, 0, 0, 6, 4, 0, NONE, NONE, 0, 1);
            check.who(x, 0, 0, 10, 129);
            check.who(y, 0, 0, 30);
            check.due("what the one may ask", x.may(-1, 0), 2);
            check.due("and the other", y.may(-1, 0), 0);
            check.due("how often the one", x.often(0, 0), 1);
            check.due("and the other", y.often(0, 0), 0);
        }
        check.due("mute of the other", y.mute(), 1);
        check.due("drop of the other", y.drop(0, 0), 1);
        check.due("signs of the one", x.wipe(), 2);
        check.due("its clauses", x.has(0), 9);
        check.due("its replies", x.mute(), 2);
    }

    /** "SIGNS (codes 33 to 126)": "OUTSIDE" */
    private static void codes33To126() {
        DeedHands x = new DeedHands();
        for (int code = 33; code <= 126; code++) {
            check.due("say(" + code + ")", x.say(code), 1);
            check.due("wipe", x.wipe(), 1);
        }
        for (int code : new int[] {32, 31, 10, 1, 0, -1, -32, -33, -126, 127, 129, 289, 382, 65569, -65503}) {
            check.due("say(" + code + ")", x.say(code), OUTSIDE);
        }
        for (int code : FAR) {
            check.due("say(" + code + ")", x.say(code), OUTSIDE);
        }
        check.due("none of them is a sign", x.told(0), 0);
    }

    /** "40 at most": "FULL" */
    private static void fortySignsAtMost() {
        DeedHands x = new DeedHands();
        for (int round = 0; round < 2; round++) {
            for (int n = 1; n <= 40; n++) {
                check.due("sign " + n, x.say(FORTY.charAt(n - 1)), n);
                check.due("signs", x.told(0), n);
            }
            for (int code : new int[] {33, '0', 'x', 126}) {
                check.due("sign 41", x.say(code), FULL);
            }
            check.due("still 40", x.told(0), 40);
            check.due("the 40 that were said", x.fault(0), NONE);
            check.due("wipe", x.wipe(), 40);
        }
        check.say(x, FORTY);
        check.due("full", x.say('0'), FULL);
        check.due("they become a text", x.text(1), 40);
        check.due("a sign behind that", x.say('0'), 1);
    }

    /** "Signs go: how many there were." */
    private static void wipeTellsHowMany() {
        DeedHands x = new DeedHands();
        check.due("none", x.wipe(), 0);
        for (int many : new int[] {1, 2, 39, 40}) {
            check.say(x, FORTY.substring(0, many));
            check.due("wipe", x.wipe(), many);
            check.due("they are gone", x.told(0), 0);
            check.due("again", x.wipe(), 0);
        }
        check.say(x, "++");
        check.due("a faulty pad", x.wipe(), 2);
        check.text(x, 0, "3");
        check.due("the pad of a text", x.wipe(), 0);
        check.due("the text stays", x.run(0, 0, 0), 3);
    }

    private static int textsOf(char sign) {
        if (LEAVES.indexOf(sign) >= 0) {
            return 0;
        }
        return "pqrk@".indexOf(sign) >= 0 ? 1 : "+-*m".indexOf(sign) >= 0 ? 2 : sign == '?' ? 3 : -1;
    }

    /** "0 to 7 (a NUMBER); x ..; + - * m ..; ? ..; p, q or r ..; @ ..; k ..": no other sign begins a text. */
    private static void signsThatBeginAText() {
        for (int code = 33; code <= 126; code++) {
            DeedHands x = new DeedHands();
            char sign = (char) code;
            int own = textsOf(sign);
            int with = own < 0 ? 0 : own == 0 ? NONE : 1;
            check.faults(x, "" + sign, sign == 'k' ? 0 : with, with);
            // The same as a text of another one.
            check.faults(x, "-1" + sign, own < 0 || sign == 'k' ? 2 : own == 0 ? NONE : 3,
                own < 0 ? 2 : own == 0 ? NONE : 3);
        }
        DeedHands x = new DeedHands();
        for (int v = 0; v < 8; v++) {
            check.text(x, 0, "" + v);
            check.due("the number " + v, x.run(0, 7 - v, 0), v);
        }
    }

    /** "and two texts", "and three texts", "and a text": one too few, as many as due, one too many. */
    private static void howManyTextsASignHas() {
        for (char sign : "+-*m?pqrk".toCharArray()) {
            int own = textsOf(sign);
            for (int n = 0; n <= own + 1; n++) {
                int with = n < own ? n + 1 : n == own ? NONE : own + 1;
                check.faults(new DeedHands(), sign + "5".repeat(n), sign == 'k' ? 0 : with, with);
                check.faults(new DeedHands(), sign + "p5".repeat(n), sign == 'k' ? 0
                    : n < own ? 2 * n + 1 : n == own ? NONE : 2 * own + 1,
                    n < own ? 2 * n + 1 : n == own ? NONE : 2 * own + 1);
            }
        }
        check.faults(new DeedHands(), "@", 1, 1);
        check.faults(new DeedHands(), "@2", 2, 2);
        check.faults(new DeedHands(), "@25", NONE, NONE);
        check.faults(new DeedHands(), "@255", 3, 3);
    }

    /** "@, 0 to 3 and a text" */
    private static void handSigns() {
        for (int code = 33; code <= 126; code++) {
            DeedHands x = new DeedHands();
            int due = code >= '0' && code <= '3' ? NONE : 1;
            check.faults(x, "@" + (char) code + "x", due, due);
            check.faults(x, "+1@" + (char) code + "x", due == NONE ? NONE : 3, due == NONE ? NONE : 3);
        }
        for (int hand = 0; hand < 4; hand++) {
            DeedHands x = check.written("0 @" + hand + "p4", hand + "0 6");
            check.due("worked within hand " + hand, x.who(0, 0, 0), 40 + hand);
        }
    }

    /** "No text lies within more than 9 others": "one that has texts of its own can not within 9 others" */
    private static void withinNineOthers() {
        for (String around : new String[] {"p", "q", "r", "k", "+0", "-1", "*2", "m3", "?01", "@0"}) {
            boolean goes = around.equals("k");
            String eight = around.repeat(8);
            String nine = around.repeat(9);
            DeedHands x = new DeedHands();
            check.faults(x, nine + "x", goes ? 0 : NONE, NONE);
            check.faults(x, nine + "7", goes ? 0 : NONE, NONE);
            check.faults(x, nine + "8", goes ? 0 : nine.length(), nine.length());
            check.faults(x, nine, goes ? 0 : nine.length(), nine.length());
            for (char sign : "pqr+-*m?@k".toCharArray()) {
                String own = sign + (sign == '@' ? "3" : "") + "1".repeat(textsOf(sign));
                int without = goes ? 0 : sign == 'k' ? eight.length() : NONE;
                check.faults(new DeedHands(), eight + own, without, NONE);
                check.faults(new DeedHands(), nine + sign, goes ? 0 : nine.length(), nine.length());
                String cut = (nine + own).substring(0, Math.min(40, nine.length() + own.length()));
                check.faults(new DeedHands(), cut, goes ? 0 : nine.length(), nine.length());
            }
        }
    }

    /** The same sentence, where texts that are over lie ahead. */
    private static void deepestSecondTexts() {
        DeedHands x = new DeedHands();
        check.faults(x, "+".repeat(9) + "0".repeat(10), NONE, NONE);
        check.faults(x, "+".repeat(9) + "0p0", 10, 10);
        check.faults(x, "+".repeat(9) + "00p0" + "0".repeat(7), NONE, NONE);
        check.faults(x, "+".repeat(9) + "00pp0", 12, 12);
        check.faults(x, "?".repeat(9) + "000p00" + "0".repeat(14), NONE, NONE);
        check.faults(x, "?".repeat(9) + "000pp0", 13, 13);
        check.faults(x, "?".repeat(9) + "00p", 11, 11);
        x = new DeedHands();
        check.faults(x, "+pppppppp0pppppppp0", NONE, NONE);
        check.faults(x, "+pppppppp0ppppppppp0", 18, 18);
        check.faults(x, "?pppppppp0pppppppp0pppppppp0", NONE, NONE);
        check.faults(x, "?pppppppp0pppppppp0ppppppppp0", 27, 27);
    }

    /** "(@ and its number are one sign for that)" */
    private static void handSignIsOneSign() {
        DeedHands x = new DeedHands();
        check.faults(x, "@0".repeat(9) + "x", NONE, NONE);
        check.faults(x, "@3".repeat(9) + "@", 18, 18);
        check.faults(x, "@3".repeat(9) + "@3x", 18, 18);
        check.faults(x, "p@1".repeat(4) + "px", NONE, NONE);
        check.faults(x, "p@1".repeat(4) + "@2x", NONE, NONE);
        check.faults(x, "p@1".repeat(4) + "@2px", 14, 14);
        check.faults(x, "p@1".repeat(4) + "p@2x", 13, 13);
        check.text(x, 0, "@0".repeat(9) + "x");
        check.run(x, 0, 5, 5, 10, 0, NONE, NONE, 0, 0);
    }

    /** "the place (from 0 on) of the first sign that can not stand there" */
    private static void firstSignThatCanNotStand() {
        for (int place = 0; place < 40; place++) {
            String signs = FORTY.substring(0, place) + "!" + FORTY.substring(place + 1);
            check.faults(new DeedHands(), signs, place, place);
            check.faults(new DeedHands(), signs.substring(0, place + 1), place, place);
            check.faults(new DeedHands(), FORTY.substring(0, place) + "~".repeat(40 - place), place, place);
        }
        check.faults(new DeedHands(), "+k1!", 1, 3);
        check.faults(new DeedHands(), "!k", 0, 0);
    }

    /** "the number of signs, if more must come" */
    private static void numberOfSignsIfMoreMustCome() {
        for (int many = 0; many < 40; many++) {
            check.faults(new DeedHands(), FORTY.substring(0, many), many, many);
        }
        check.faults(new DeedHands(), FORTY, NONE, NONE);
        check.faults(new DeedHands(), FORTY.substring(0, 39) + "p", 40, 40);
        check.faults(new DeedHands(), FORTY.substring(0, 39) + "k", 39, 40);
        check.faults(new DeedHands(), FORTY.substring(0, 39) + "@", 40, 40);
        check.faults(new DeedHands(), "?" + ONE + NOUGHT.substring(0, 14) + "+00" + "p@2", 40, 40);
    }

    /** A sign behind a whole text can not stand: the first place and the last one. */
    private static void behindTheWhole() {
        for (int code = 33; code <= 126; code++) {
            check.faults(new DeedHands(), "x" + (char) code, 1, 1);
        }
        String whole = "?" + ONE + NOUGHT.substring(0, 14) + "+00" + "x";
        check.faults(new DeedHands(), whole + "x", 38, 38);
        check.faults(new DeedHands(), whole + "xx", 38, 38);
        check.faults(new DeedHands(), "+" + ONE + NOUGHT + "0", 39, 39);
        check.faults(new DeedHands(), "+" + ONE + NOUGHT, NONE, NONE);
    }

    /** "without k (how = 0), with it (1); NONE. OUTSIDE." */
    private static void faultHow() {
        DeedHands x = new DeedHands();
        check.say(x, "k1");
        check.due("fault(0)", x.fault(0), 0);
        check.due("fault(1)", x.fault(1), NONE);
        check.due("fault(-1)", x.fault(-1), OUTSIDE);
        check.due("fault(2)", x.fault(2), OUTSIDE);
        for (int how : FAR) {
            check.due("fault(" + how + ")", x.fault(how), OUTSIDE);
        }
        check.due("the pad stays", x.wipe(), 2);
        check.due("outside, if the pad is empty", x.fault(2), OUTSIDE);
        check.say(x, "5");
        check.due("outside, if there is none", x.fault(-1), OUTSIDE);
    }

    /** "TEXTS 0 to 3": "UNKNOWN" */
    private static void textNumbers() {
        for (int text = 0; text < 4; text++) {
            DeedHands x = new DeedHands();
            check.text(x, text, "+x1");
            for (int n = 0; n < 4; n++) {
                check.due("signs of " + n, x.told(10 + n), n == text ? 3 : 1);
                check.due("value of " + n, x.run(n, 6, 0), n == text ? 7 : 0);
            }
        }
        DeedHands x = new DeedHands();
        check.say(x, "5");
        check.due("text(-1)", x.text(-1), UNKNOWN);
        check.due("text(4)", x.text(4), UNKNOWN);
        for (int text : FAR) {
            check.due("text(" + text + ")", x.text(text), UNKNOWN);
        }
        check.due("the pad stays", x.told(0), 1);
        check.due("text(3)", x.text(3), 1);
        check.due("it is empty then", x.told(0), 0);
        check.due("value", x.run(3, 0, 0), 5);
    }

    /** "NO: there is a FAULT." */
    private static void textIsFaultless() {
        for (String signs : new String[] {"", "8", "+1", "12", "@", "@4x", "@0", "pppppppppp0", "p!"}) {
            DeedHands x = check.written("2 6");
            check.say(x, signs);
            check.due("text of " + signs, x.text(2), NO);
            check.due("the pad stays", x.told(0), signs.length());
            check.due("the text stays", x.run(2, 0, 0), 6);
        }
        DeedHands x = check.written("2 6");
        check.say(x, "+1");
        check.due("not yet", x.text(2), NO);
        check.due("one sign more", x.say('2'), 3);
        check.due("now", x.text(2), 3);
        check.due("value", x.run(2, 0, 0), 3);
    }

    /** "TEXTS .. without k" */
    private static void textsAreWithoutK() {
        for (int text = 0; text < 4; text++) {
            for (String signs : new String[] {"k1", "+1k1", "@0k1", "?k100", "?00k1", "ppk1"}) {
                DeedHands x = new DeedHands();
                check.say(x, signs);
                check.due("text of " + signs, x.text(text), NO);
                check.due("a clause of it", x.clause(text, text % 3), signs.length());
            }
        }
    }

    /** The most signs of a TEXT: the first and the last one. */
    private static void textOfFortySigns() {
        for (int text = 0; text < 4; text += 3) {
            DeedHands x = new DeedHands();
            check.text(x, text, FORTY);
            check.due("the pad is empty", x.told(0), 0);
            check.due("its signs", x.told(10 + text), 40);
            for (int argument = 0; argument < 8; argument++) {
                check.run(x, text, argument, argument, 15, 0, NONE, NONE, 0, 0);
            }
            check.text(x, text, "4");
            check.due("its signs", x.told(10 + text), 1);
            check.run(x, text, 1, 4, 1);
        }
    }

    /** "HANDS 0 to 3 have a CLAUSE for each DEED .. and one for what comes BACK (3)": "UNKNOWN" */
    private static void clauseNumbers() {
        for (int hand = 0; hand < 4; hand++) {
            for (int part = 0; part < 4; part++) {
                DeedHands x = new DeedHands();
                check.clause(x, hand, part, "5");
                for (int other = 0; other < 4; other++) {
                    check.due("has(" + other + ")", x.has(other), other == hand ? 1 << part : 0);
                }
            }
        }
        DeedHands x = new DeedHands();
        check.say(x, "5");
        for (int far : new int[] {-1, 4}) {
            check.due("clause(" + far + ", 0)", x.clause(far, 0), UNKNOWN);
            check.due("clause(0, " + far + ")", x.clause(0, far), UNKNOWN);
            check.due("clause(3, " + far + ")", x.clause(3, far), UNKNOWN);
            check.due("clause(" + far + ", 3)", x.clause(far, 3), UNKNOWN);
            check.due("clause(" + far + ", " + far + ")", x.clause(far, far), UNKNOWN);
        }
        for (int far : FAR) {
            check.due("clause(" + far + ", 0)", x.clause(far, 0), UNKNOWN);
            check.due("clause(0, " + far + ")", x.clause(0, far), UNKNOWN);
        }
        check.due("the pad stays", x.told(0), 1);
        check.due("nothing came", x.has(0) + x.has(1) + x.has(2) + x.has(3), 0);
        check.due("clause(3, 3)", x.clause(3, 3), 1);
        check.due("it is empty then", x.told(0), 0);
    }

    /** "UNKNOWN; NO." */
    private static void clauseIsFaultless() {
        for (String signs : new String[] {"", "8", "+1", "12", "@", "@4x", "@0", "pppppppppp0", "kkkkkkkkkk0", "k!"}) {
            for (int part = 0; part < 4; part++) {
                DeedHands x = check.written("2" + part + " 6");
                check.say(x, signs);
                check.due("clause of " + signs, x.clause(2, part), NO);
                check.due("another one", x.clause(1, part), NO);
                check.due("the pad stays", x.told(0), signs.length());
                check.due("nothing came", x.has(1), 0);
                check.due("the clause stays", x.drop(2, part), 1);
            }
        }
    }

    /** "BACK .. without k": and those of the deeds may have it. */
    private static void backIsWithoutK() {
        for (int hand = 0; hand < 4; hand++) {
            for (String signs : new String[] {"k1", "+1k1", "@0k1", "?00k1"}) {
                DeedHands x = new DeedHands();
                check.say(x, signs);
                check.due("back of " + signs, x.clause(hand, 3), NO);
                check.due("the pad stays", x.told(0), signs.length());
                check.due("nothing came", x.has(hand), 0);
                check.due("a deed's", x.clause(hand, hand % 3), signs.length());
                for (int deed = 0; deed < 3; deed++) {
                    check.clause(x, hand, deed, signs);
                }
                check.due("all of them", x.has(hand), 7);
            }
        }
    }

    /** The most signs of a CLAUSE: the first hand's first one, the last one's last. */
    private static void clauseOfFortySigns() {
        DeedHands x = check.written("0 @3p6", "30 " + FORTY);
        check.due("worked to the last sign", x.run(0, 2, 0), 6);
        check.due("drop", x.drop(3, 0), 40);
        x = check.written("0 @37", "33 " + FORTY);
        check.run(x, 0, 2, 7, 17);
        check.due("drop", x.drop(3, 3), 40);
        x = check.written("0 @0p6", "00 " + FORTY);
        check.run(x, 0, 2, 6, 18);
        String handLast = "?" + ONE + NOUGHT.substring(0, 14) + "+00" + "@2x";
        x = check.written("0 @3p6", "30 " + handLast, "23 +x1");
        check.due("a hand among the last signs", x.run(0, 2, 0), 7);
        x = check.written("0 @36", "33 " + handLast, "23 +x1");
        check.due("of the last clause, too", x.run(0, 2, 0), 7);
        String goesLast = "?" + ONE + NOUGHT.substring(0, 14) + "?000" + "kx";
        x = check.written("0 @2+p61", "20 " + goesLast);
        check.due("k among the last signs", x.run(0, 2, 0), 7);
        check.due("and often", x.often(2, 0), 1);
    }

    /** "A HAND has that CLAUSE no more: .. UNKNOWN; NO: it has none." */
    private static void dropNumbers() {
        for (int hand = 0; hand < 4; hand++) {
            for (int part = 0; part < 4; part++) {
                DeedHands x = check.written(hand + "" + part + " -12");
                for (int other = 0; other < 16; other++) {
                    if (other != hand * 4 + part) {
                        check.due("it has none", x.drop(other / 4, other % 4), NO);
                    }
                }
                check.due("it stays", x.has(hand), 1 << part);
                check.due("drop", x.drop(hand, part), 3);
                check.due("has none", x.has(hand), 0);
                check.due("drop again", x.drop(hand, part), NO);
            }
        }
        DeedHands x = check.written("00 1", "03 1", "30 1", "33 1");
        for (int far : new int[] {-1, 4}) {
            for (int near : new int[] {0, 3}) {
                check.due("drop(" + far + ", " + near + ")", x.drop(far, near), UNKNOWN);
                check.due("drop(" + near + ", " + far + ")", x.drop(near, far), UNKNOWN);
            }
        }
        for (int far : FAR) {
            check.due("drop(" + far + ", 0)", x.drop(far, 0), UNKNOWN);
            check.due("drop(0, " + far + ")", x.drop(0, far), UNKNOWN);
        }
        check.due("all stay", x.has(0) * 100 + x.has(3), 909);
    }

    /** A text of that many signs, 1 to 19. */
    private static String sized(int size) {
        int acts = Math.max(0, size - 10);
        return "+0".repeat(acts) + "p".repeat(size - 1 - 2 * acts) + "x";
    }

    /** "how many signs it had": each of the 16 its own. */
    private static void dropTellsEachSize() {
        DeedHands x = new DeedHands();
        for (int n = 0; n < 16; n++) {
            check.clause(x, n / 4, n % 4, sized(n + 1));
        }
        for (int n = 15; n >= 0; n--) {
            check.due("has before", x.has(n / 4), (2 << n % 4) - 1);
            check.due("drop", x.drop(n / 4, n % 4), n + 1);
            check.due("has then", x.has(n / 4), (1 << n % 4) - 1);
        }
        check.clause(x, 1, 2, sized(19));
        check.clause(x, 1, 2, sized(3));
        check.due("the latter one", x.drop(1, 2), 3);
        check.due("and no other", x.drop(1, 2), NO);
    }

    /** "Which CLAUSES a HAND has, as bits 0 to 3. UNKNOWN." */
    private static void hasNumbers() {
        for (int bits = 0; bits < 16; bits++) {
            DeedHands x = new DeedHands();
            for (int part = 0; part < 4; part++) {
                if ((bits >> part & 1) == 1) {
                    check.clause(x, 3, part, "x");
                    check.clause(x, 0, 3 - part, "x");
                }
            }
            check.due("has(3)", x.has(3), bits);
            check.due("has(0)", x.has(0), (bits & 1) * 8 + (bits & 2) * 2 + (bits & 4) / 2 + (bits & 8) / 8);
            check.due("has(1)", x.has(1), 0);
            check.due("has(-1)", x.has(-1), UNKNOWN);
            check.due("has(4)", x.has(4), UNKNOWN);
        }
        for (int hand : FAR) {
            check.due("has(" + hand + ")", new DeedHands().has(hand), UNKNOWN);
        }
    }

    /** "0 signs, 1 REPLIES, 10 to 13 signs of TEXTS. OUTSIDE." */
    private static void toldNumbers() {
        DeedHands x = check.written("0 " + sized(11), "1 " + sized(2), "2 " + sized(3), "3 " + sized(4));
        check.say(x, "abcde");
        check.replies(x, 1, 2, 3, 4, 5, 6);
        int[] due = {5, 6, OUTSIDE, OUTSIDE, OUTSIDE, OUTSIDE, OUTSIDE, OUTSIDE, OUTSIDE, OUTSIDE, 11, 2, 3, 4,
            OUTSIDE, OUTSIDE, OUTSIDE};
        for (int what = 0; what < due.length; what++) {
            check.due("told(" + what + ")", x.told(what), due[what]);
        }
        check.due("told(-1)", x.told(-1), OUTSIDE);
        for (int what : FAR) {
            check.due("told(" + what + ")", x.told(what), OUTSIDE);
        }
    }

    /** What is told of the empty and the full: no signs and 40, no REPLY and 8, texts of one sign and of 40. */
    private static void toldEdges() {
        DeedHands x = new DeedHands();
        check.due("no signs", x.told(0), 0);
        check.due("no replies", x.told(1), 0);
        check.due("a new text", x.told(13), 1);
        check.text(x, 3, FORTY);
        check.say(x, FORTY);
        check.replies(x, 0, 1, 2, 3, 4, 5, 6, 7);
        check.due("signs", x.told(0), 40);
        check.due("replies", x.told(1), 8);
        check.due("signs of text 3", x.told(13), 40);
        check.due("signs of text 2", x.told(12), 1);
        check.due("wipe", x.wipe(), 40);
        check.due("mute", x.mute(), 8);
        check.due("no signs again", x.told(0), 0);
        check.due("no replies again", x.told(1), 0);
        check.due("the text stays", x.told(13), 40);
    }

    /** "An object is used for at most 512 calls": the last one answers as the first. */
    private static void the512thCall() {
        DeedHands x = new DeedHands();
        int calls = 0;
        for (char sign : "@0pp+xq1".toCharArray()) {
            x.say(sign);
            calls++;
        }
        check.due("text", x.text(0), 8);
        calls++;
        for (char sign : "+kxk1".toCharArray()) {
            x.say(sign);
            calls++;
        }
        check.due("clause", x.clause(0, 0), 5);
        calls++;
        int end = x.run(0, 1, 0);
        int all = x.all(0, 1, 4, 2);
        calls += 2;
        for (; calls < 510; calls++) {
            check.due("call " + (calls + 1), x.all(0, 1, 4, 2), all);
        }
        check.due("call 511", x.run(0, 1, 0), end);
        check.due("call 512", x.drop(0, 0), 5);
    }
}
