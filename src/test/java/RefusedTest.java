import java.util.ArrayList;
import java.util.List;

/** All promises: refused calls change nothing, calls that only tell change nothing, and no call throws. */
public final class RefusedTest {
    private static final Check check = new Check();
    private static final int[] ODD = {Integer.MIN_VALUE, -1000, -7, -2, -1, 0, 1, 2, 3, 4, 5, 7, 8, 9, 10, 13, 14,
        32, 33, 40, 126, 127, 199, 200, 1 << 30, Integer.MAX_VALUE};

    public static void main(String[] args) {
        refusedCallsChangeNothing();
        tellingChangesNothing();
        check.end("RefusedTest");
    }

    private static DeedHands filled() {
        DeedHands x = new DeedHands();
        check.text(x, 0, "@1@0-pxq3");
        check.text(x, 2, "?p0q1r2");
        check.clause(x, 0, 0, "k+x1");
        check.clause(x, 1, 1, "mkxk2");
        check.clause(x, 1, 3, "rx");
        for (int v = 0; v < 8; v++) {
            x.reply(v);
        }
        return x;
    }

    private static List<Integer> state(DeedHands x) {
        List<Integer> all = new ArrayList<>();
        all.add(x.told(0));
        all.add(x.told(1));
        all.add(x.fault(0));
        all.add(x.fault(1));
        for (int n = 0; n < 4; n++) {
            all.add(x.told(10 + n));
            all.add(x.has(n));
            all.add(x.may(-1, n));
            for (int what = 0; what < 7; what++) {
                all.add(x.run(n, 4, what));
            }
            for (int d = 0; d < 4; d++) {
                all.add(x.often(n, d));
            }
        }
        return all;
    }

    private static void same(String what, DeedHands x, List<Integer> before) {
        check.due(what + " leaves all as it was", state(x).equals(before) ? 1 : 0, 1);
    }

    private static void refusedCallsChangeNothing() {
        DeedHands x = filled();
        check.say(x, "+k1");
        List<Integer> before = state(x);
        check.due("say", x.say(32), DeedHands.OUTSIDE);
        check.due("fault", x.fault(2), DeedHands.OUTSIDE);
        check.due("text", x.text(0), DeedHands.NO);
        check.due("text", x.text(4), DeedHands.UNKNOWN);
        check.due("clause", x.clause(0, 0), DeedHands.NO);
        check.due("clause", x.clause(0, 4), DeedHands.UNKNOWN);
        check.due("drop", x.drop(0, 1), DeedHands.NO);
        check.due("drop", x.drop(4, 1), DeedHands.UNKNOWN);
        check.due("reply", x.reply(8), DeedHands.OUTSIDE);
        check.due("reply", x.reply(7), DeedHands.FULL);
        check.due("has", x.has(4), DeedHands.UNKNOWN);
        check.due("run", x.run(4, 0, 0), DeedHands.UNKNOWN);
        check.due("who", x.who(0, 8, 0), DeedHands.OUTSIDE);
        check.due("may", x.may(0, 1), DeedHands.UNKNOWN);
        check.due("often", x.often(0, 1), DeedHands.UNKNOWN);
        check.due("all", x.all(0, 0, 5, 0), DeedHands.OUTSIDE);
        check.due("row", x.row(0, 0, 0, 0, 10, 0), DeedHands.OUTSIDE);
        check.due("apart", x.apart(0, 0, 4, 0, 0, 0, 0), DeedHands.UNKNOWN);
        check.due("told", x.told(14), DeedHands.OUTSIDE);
        same("refused calls", x, before);
    }

    /** Every pair of odd numbers, in every two places of the calls that only tell. */
    private static void tellingChangesNothing() {
        for (int a : ODD) {
            DeedHands x = filled();
            List<Integer> before = state(x);
            for (int b : ODD) {
                x.fault(b);
                x.has(b);
                x.told(b);
                x.run(a, b, 0);
                x.run(0, a, b);
                x.who(a, 0, b);
                x.who(0, a, b);
                x.may(a, b);
                x.often(a, b);
                same("telling", x, before);
                x = filled();
                x.all(a, b, 2, 1);
                x.all(0, 4, a, b);
                x.row(a, 0, 2, 1, b, 0);
                x.row(2, a, b, 2, 0, 0);
                x.row(2, 0, 2, a, 0, b);
                x.apart(a, 0, b, 0, 2, 2, -1);
                x.apart(0, a, 2, b, 2, 2, -1);
                x.apart(0, 0, 2, 0, a, b, -1);
                x.apart(2, 0, 2, 0, 2, a, b);
                same("rows", x, before);
                x = filled();
            }
            x.text(a);
            for (int b : ODD) {
                x.clause(a, b);
                x.drop(a, b);
            }
            x.say(a);
            x.reply(a);
        }
    }
}
