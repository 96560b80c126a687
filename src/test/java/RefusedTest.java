import java.util.ArrayList;
import java.util.List;

/**
 * All promises: "Calls that are refused answer, the first of these that fits: UNKNOWN, OUTSIDE, FULL,
 * NO. They change nothing." Each refused call is made on one of two objects that are alike in all
 * else; from then on both must answer alike. Calls that only tell change nothing, either.
 */
public final class RefusedTest {
    private static final int UNKNOWN = DeedHands.UNKNOWN;
    private static final int OUTSIDE = DeedHands.OUTSIDE;
    private static final int FULL = DeedHands.FULL;
    private static final int NO = DeedHands.NO;
    private static final Check check = new Check();
    private static final int[] ODD = {Integer.MIN_VALUE, -1000, -7, -2, -1, 0, 1, 2, 3, 4, 5, 7, 8, 9, 10, 13, 14,
        32, 33, 40, 126, 127, 199, 200, 1 << 30, Integer.MAX_VALUE};
    private static final String FORTY = "?+??000?000?000++001+??000?000?000++000x";

    /** Pads by what can become of them: nothing, a text, a clause of a deed only. */
    private static final String[] FAULTY = {"", "+k1", "12", FORTY.substring(0, 39) + "!", FORTY.substring(0, 39) + "p"};
    private static final String[] SOUND = {"+x1", FORTY};
    private static final String[] GOING = {"kx", "?+??000?000?000++001+??000?000?000?000kx"};

    private interface Call {
        int on(DeedHands x);
    }

    public static void main(String[] args) {
        unknown();
        outside();
        full();
        no();
        unknownAheadOfOutside();
        unknownAheadOfNo();
        outsideAheadOfFull();
        outsideAheadOfNo();
        tellingChangesNothing();
        check.end("RefusedTest");
    }

    private static DeedHands filled(String pad) {
        DeedHands x = check.written("0 @1@0-pxq3", "2 ?p0q1r2", "00 k+x1", "11 mkxk2", "13 rx");
        check.replies(x, 0, 1, 2, 3, 4, 5, 6, 7);
        check.say(x, pad);
        return x;
    }

    private static DeedHands fresh(String pad) {
        DeedHands x = new DeedHands();
        check.say(x, pad);
        return x;
    }

    private static List<Integer> told(DeedHands x) {
        List<Integer> all = new ArrayList<>();
        all.add(x.told(0));
        all.add(x.told(1));
        all.add(x.fault(0));
        all.add(x.fault(1));
        for (int n = 0; n < 4; n++) {
            all.add(x.told(10 + n));
            all.add(x.has(n));
            all.add(x.may(-1, n));
            for (int what = 0; what < 7; what++) {
                all.add(x.run(n, 4, what));
            }
            for (int d = 0; d < 4; d++) {
                all.add(x.often(n, d));
                all.add(x.may(n, d));
            }
        }
        all.add(x.all(2, 0, 2, 2));
        all.add(x.row(2, 0, 2, 2, 0, -1));
        all.add(x.apart(0, 4, 2, 0, 2, 2, -1));
        return all;
    }

    /** All that can be asked, and at last what stands on the pad, the clauses and the replies. */
    private static List<Integer> laidOpen(DeedHands x) {
        List<Integer> all = told(x);
        all.add(x.text(3));
        all.add(x.clause(3, 2));
        all.add(x.say('2'));
        all.add(x.text(3));
        all.add(x.clause(3, 2));
        all.add(x.wipe());
        for (char sign : "@3+1r5".toCharArray()) {
            all.add(x.say(sign));
        }
        all.add(x.text(1));
        for (int a = 0; a < 8; a++) {
            all.add(x.run(3, a, 0));
            all.add(x.run(3, a, 1));
            all.add(x.run(1, a, 0));
        }
        for (int n = 0; n < 16; n++) {
            all.add(x.drop(n / 4, n % 4));
        }
        all.add(x.mute());
        all.add(x.wipe());
        return all;
    }

    private static void refused(String what, int due, DeedHands x, DeedHands twin, Call call) {
        check.due(what, call.on(x), due);
        check.due(what + " again", call.on(x), due);
        check.due(what + " changes nothing", laidOpen(x).equals(laidOpen(twin)) ? 1 : 0, 1);
    }

    private static void refusedAlways(String what, int due, Call call) {
        for (String[] pads : new String[][] {FAULTY, SOUND, GOING}) {
            refusedWith(what, due, pads, call);
        }
    }

    private static void refusedWith(String what, int due, String[] pads, Call call) {
        for (String pad : pads) {
            refused(what, due, filled(pad), filled(pad), call);
            refused(what, due, fresh(pad), fresh(pad), call);
        }
    }

    private static void unknown() {
        for (int n : new int[] {-1, 4, Integer.MIN_VALUE, Integer.MAX_VALUE}) {
            refusedAlways("text", UNKNOWN, x -> x.text(n));
            refusedAlways("clause", UNKNOWN, x -> x.clause(n, 0));
            refusedAlways("clause for", UNKNOWN, x -> x.clause(0, n));
            refusedAlways("drop", UNKNOWN, x -> x.drop(n, 0));
            refusedAlways("drop for", UNKNOWN, x -> x.drop(0, n));
            refusedAlways("has", UNKNOWN, x -> x.has(n));
            refusedAlways("run", UNKNOWN, x -> x.run(n, 0, 0));
            refusedAlways("who", UNKNOWN, x -> x.who(n, 0, 0));
            refusedAlways("may", UNKNOWN, x -> x.may(n == -1 ? -2 : n, 0));
            refusedAlways("may of text", UNKNOWN, x -> x.may(-1, n));
            refusedAlways("may of clause", UNKNOWN, x -> x.may(0, n));
            refusedAlways("often", UNKNOWN, x -> x.often(n, 0));
            refusedAlways("often for", UNKNOWN, x -> x.often(0, n));
            refusedAlways("all", UNKNOWN, x -> x.all(n, 0, 2, 2));
            refusedAlways("row", UNKNOWN, x -> x.row(n, 0, 2, 2, 0, -1));
            refusedAlways("apart", UNKNOWN, x -> x.apart(n, 0, 0, 0, 2, 2, -1));
            refusedAlways("apart from", UNKNOWN, x -> x.apart(0, 0, n, 0, 2, 2, -1));
        }
        refusedAlways("may without a clause", UNKNOWN, x -> x.may(0, 1));
        refusedAlways("often without a clause", UNKNOWN, x -> x.often(3, 3));
    }

    private static void outside() {
        for (int n : new int[] {-1, 8, Integer.MIN_VALUE, Integer.MAX_VALUE}) {
            refusedAlways("run argument", OUTSIDE, x -> x.run(0, n, 0));
            refusedAlways("run what", OUTSIDE, x -> x.run(0, 0, n == 8 ? 7 : n));
            refusedAlways("who argument", OUTSIDE, x -> x.who(0, n, 0));
            refusedAlways("who i", OUTSIDE, x -> x.who(0, 0, n == 8 ? 200 : n));
            refusedAlways("all argument", OUTSIDE, x -> x.all(0, n, 2, 2));
            refusedAlways("all length", OUTSIDE, x -> x.all(0, 0, n == 8 ? 5 : n, 2));
            refusedAlways("all c", OUTSIDE, x -> x.all(0, 0, 2, n == 8 ? 3 : n));
            refusedAlways("row argument", OUTSIDE, x -> x.row(0, n, 2, 2, 0, -1));
            refusedAlways("row length", OUTSIDE, x -> x.row(0, 0, n == 8 ? 5 : n, 2, 0, -1));
            refusedAlways("row c", OUTSIDE, x -> x.row(0, 0, 2, n == 8 ? 3 : n, 0, -1));
            refusedAlways("row end", OUTSIDE, x -> x.row(0, 0, 2, 2, n == 8 ? 10 : n, -1));
            refusedAlways("apart argument", OUTSIDE, x -> x.apart(0, n, 0, 0, 2, 2, -1));
            refusedAlways("apart with", OUTSIDE, x -> x.apart(0, 0, 0, n, 2, 2, -1));
            refusedAlways("apart length", OUTSIDE, x -> x.apart(0, 0, 0, 0, n == 8 ? 5 : n, 2, -1));
            refusedAlways("apart c", OUTSIDE, x -> x.apart(0, 0, 0, 0, 2, n == 8 ? 3 : n, -1));
            refusedAlways("fault", OUTSIDE, x -> x.fault(n == 8 ? 2 : n));
            refusedAlways("reply", OUTSIDE, x -> x.reply(n));
            refusedAlways("say", OUTSIDE, x -> x.say(n == 8 ? 127 : n == -1 ? 32 : n));
        }
        for (int what : new int[] {-1, 2, 9, 14, Integer.MIN_VALUE, Integer.MAX_VALUE}) {
            refusedAlways("told", OUTSIDE, x -> x.told(what));
        }
    }

    private static void full() {
        for (String pad : new String[] {FORTY, FAULTY[3], FAULTY[4], GOING[1]}) {
            for (int sign : new int[] {33, '0', 'x', '!', 126}) {
                refused("say " + sign, FULL, filled(pad), filled(pad), x -> x.say(sign));
                refused("say " + sign, FULL, fresh(pad), fresh(pad), x -> x.say(sign));
            }
        }
        for (String pad : new String[] {"", "+k1", "x", FORTY}) {
            for (int v = 0; v < 8; v++) {
                int reply = v;
                refused("reply " + v, FULL, filled(pad), filled(pad), x -> x.reply(reply));
            }
        }
    }

    private static void no() {
        for (int n = 0; n < 4; n++) {
            int one = n;
            refusedWith("text " + n, NO, FAULTY, x -> x.text(one));
            refusedWith("text " + n, NO, GOING, x -> x.text(one));
            refusedWith("back of " + n, NO, FAULTY, x -> x.clause(one, 3));
            refusedWith("back of " + n, NO, GOING, x -> x.clause(one, 3));
            for (int deed = 0; deed < 3; deed++) {
                int part = deed;
                // What is faulty without k alone becomes a deed's clause.
                String[] faulty = {"", "+1", FAULTY[2], FAULTY[3], FAULTY[4], "+k1", "k"};
                refusedWith("clause " + n + " " + deed, NO, faulty, x -> x.clause(one, part));
            }
            refusedAlways("drop 2 " + n, NO, x -> x.drop(2, one));
            refusedAlways("drop 3 " + n, NO, x -> x.drop(3, one));
        }
        refusedAlways("row to a value", NO, x -> x.row(0, 0, 0, 0, 7, -1));
        refusedAlways("row to spent", NO, x -> x.row(2, 0, 4, 2, 9, -1));
        refusedAlways("the first one of it", NO, x -> x.row(2, 0, 4, 2, 9, 0));
    }

    private static void unknownAheadOfOutside() {
        for (int text : new int[] {-1, 4}) {
            for (int n : new int[] {-1, 200, Integer.MIN_VALUE, Integer.MAX_VALUE}) {
                refusedAlways("run", UNKNOWN, x -> x.run(text, n, 0));
                refusedAlways("run", UNKNOWN, x -> x.run(text, 0, n));
                refusedAlways("run", UNKNOWN, x -> x.run(text, n, n));
                refusedAlways("who", UNKNOWN, x -> x.who(text, n, 0));
                refusedAlways("who", UNKNOWN, x -> x.who(text, 0, n));
                refusedAlways("all", UNKNOWN, x -> x.all(text, n, 0, 0));
                refusedAlways("all", UNKNOWN, x -> x.all(text, 0, n, 0));
                refusedAlways("all", UNKNOWN, x -> x.all(text, 0, 0, n));
                refusedAlways("row", UNKNOWN, x -> x.row(text, n, 0, 0, 0, -1));
                refusedAlways("row", UNKNOWN, x -> x.row(text, 0, n, 0, 0, -1));
                refusedAlways("row", UNKNOWN, x -> x.row(text, 0, 0, n, 0, -1));
                refusedAlways("row", UNKNOWN, x -> x.row(text, 0, 0, 0, n, -1));
                refusedAlways("apart", UNKNOWN, x -> x.apart(text, n, 0, 0, 0, 0, -1));
                refusedAlways("apart", UNKNOWN, x -> x.apart(text, 0, 0, n, 0, 0, -1));
                refusedAlways("apart", UNKNOWN, x -> x.apart(0, n, text, 0, 0, 0, -1));
                refusedAlways("apart", UNKNOWN, x -> x.apart(0, 0, text, n, 0, 0, -1));
                refusedAlways("apart", UNKNOWN, x -> x.apart(0, 0, text, 0, n, 0, -1));
                refusedAlways("apart", UNKNOWN, x -> x.apart(0, 0, text, 0, 0, n, -1));
            }
        }
    }

    private static void unknownAheadOfNo() {
        for (int n : new int[] {-1, 4}) {
            refusedWith("text", UNKNOWN, FAULTY, x -> x.text(n));
            refusedWith("text", UNKNOWN, GOING, x -> x.text(n));
            refusedWith("clause", UNKNOWN, FAULTY, x -> x.clause(n, 0));
            refusedWith("clause", UNKNOWN, FAULTY, x -> x.clause(0, n));
            refusedWith("clause", UNKNOWN, GOING, x -> x.clause(n, 3));
            refusedAlways("drop", UNKNOWN, x -> x.drop(n, 1));
            refusedAlways("drop", UNKNOWN, x -> x.drop(2, n));
            refusedAlways("row", UNKNOWN, x -> x.row(n, 0, 0, 0, 9, -1));
        }
    }

    private static void outsideAheadOfFull() {
        for (int sign : new int[] {32, 127}) {
            refused("say", OUTSIDE, filled(FORTY), filled(FORTY), x -> x.say(sign));
            refused("say", OUTSIDE, fresh(FAULTY[4]), fresh(FAULTY[4]), x -> x.say(sign));
        }
        for (int v : new int[] {-1, 8}) {
            refused("reply", OUTSIDE, filled(""), filled(""), x -> x.reply(v));
        }
    }

    private static void outsideAheadOfNo() {
        refusedAlways("row argument", OUTSIDE, x -> x.row(2, 8, 0, 0, 9, -1));
        refusedAlways("row length", OUTSIDE, x -> x.row(2, 0, 5, 0, 9, -1));
        refusedAlways("row c", OUTSIDE, x -> x.row(2, 0, 0, 3, 9, -1));
        refusedAlways("row end", OUTSIDE, x -> x.row(2, 0, 0, 0, 10, -1));
    }

    private static void same(String what, DeedHands x, List<Integer> before) {
        check.due(what + " leaves all as it was", told(x).equals(before) ? 1 : 0, 1);
    }

    /** Every pair of odd numbers, in every two places of the calls that only tell. */
    private static void tellingChangesNothing() {
        for (int a : ODD) {
            DeedHands x = filled("");
            List<Integer> before = told(x);
            for (int b : ODD) {
                x.fault(b);
                x.has(b);
                x.told(b);
                x.run(a, b, 0);
                x.run(0, a, b);
                x.who(a, 0, b);
                x.who(0, a, b);
                x.may(a, b);
                x.often(a, b);
                same("telling", x, before);
                x = filled("");
                x.all(a, b, 2, 1);
                x.all(0, 4, a, b);
                x.row(a, 0, 2, 1, b, 0);
                x.row(2, a, b, 2, 0, 0);
                x.row(2, 0, 2, a, 0, b);
                x.apart(a, 0, b, 0, 2, 2, -1);
                x.apart(0, a, 2, b, 2, 2, -1);
                x.apart(0, 0, 2, 0, a, b, -1);
                x.apart(2, 0, 2, 0, 2, a, b);
                same("rows", x, before);
                x = filled("");
            }
            x.text(a);
            for (int b : ODD) {
                x.clause(a, b);
                x.drop(a, b);
            }
            x.say(a);
            x.reply(a);
        }
    }
}
