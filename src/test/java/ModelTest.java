import java.util.Random;

/** All promises: random runs of calls, answered by the class and by the model. */
public final class ModelTest {
    private static final int ROUNDS = 1500;
    private static final int CALLS = 510;
    private final Check check = new Check();
    private final Random random = new Random(20261117);
    private final int[] ends = new int[10];
    private int calls;
    private int mostGoings;
    private int mostAskings;
    private int apartFound;

    private DeedHands x;
    private Model m;

    public static void main(String[] args) throws InterruptedException {
        ModelTest test = new ModelTest();
        // What waits is a row of functions in the model, so its runs go deep.
        Thread thread = new Thread(null, test::rounds, "rounds", 1L << 29);
        boolean[] died = new boolean[1];
        thread.setUncaughtExceptionHandler((t, e) -> {
            e.printStackTrace(System.out);
            died[0] = true;
        });
        thread.start();
        thread.join();
        if (died[0]) {
            System.exit(1);
        }
        test.check.end("ModelTest");
    }

    private static final String[][] HEAVY = {
        {"@3-ppr-?p@000q2r11", "p-k@2+@2q?@1341k2p3", null, "0", "qmr**p@2q@11-xx2r+p1r+r@01x", "@06",
            "-k@1*@2kx5*2mk+22@00", "rpp*rkp@2r1k0", "qqqqqx", "kk@11", "q?+k-mppkxp0r01+1m0k20",
            "qk+-kqpr@310k2", "pq-p@1r12", "0", "kk0", "pq?@0x44", "rmprqr?p@112-101"},
        {"@3@1qr@2x", "mk6-mqkkkp4r0k@00", "rk@0k@1@1q?6x1", "m@0p*qxq0@0k@07", null, null, "pqkqmkkkkx1",
            null, "rrpp@31", "k@0?q@0m@3@24p-7x17", "?k@0p*m66kq6kxpqx", null, "m+p*p@1@3xx01", "kkkkk1",
            "?rm@21xq2q?731", "1", "q-qqq?22qxx"},
        {"@1@2q-qm-1-@002p11", null, null, "kk?x@2rq2r-r30", "mqm-*+@1@31012@21pr2", "rrkkkk*kk1q0",
            "*kkp+q0r-xr@21+r02", "k0", "m0p2", "0", "kkkkkmkkk10", null, "rr-qq0rrqq1", "r+xrqp6",
            "@0@3-+x64", "@0?kx17", "qqpppp2"},
    };

    /** Runs that lay down thousands of frames, found by search. */
    private void heavyRuns() {
        for (String[] written : HEAVY) {
            x = new DeedHands();
            m = new Model();
            for (int page = 0; page < written.length; page++) {
                if (written[page] == null) {
                    continue;
                }
                say(written[page]);
                if (page == 0) {
                    due("text 0", x.text(0), m.text(0));
                } else {
                    due("clause", x.clause((page - 1) / 4, (page - 1) % 4), m.clause((page - 1) / 4, (page - 1) % 4));
                }
            }
            for (int a = 0; a < 8; a++) {
                for (int what = 0; what < 7; what++) {
                    due("heavy run " + what, x.run(0, a, what), m.run(0, a, what));
                }
                due("heavy who", x.who(0, a, m.answers.size() - 1), m.who(0, a, m.answers.size() - 1));
            }
        }
    }

    private void rounds() {
        heavyRuns();
        for (int round = 0; round < ROUNDS && check.allRight(); round++) {
            x = new DeedHands();
            m = new Model();
            calls = 0;
            if (round % 4 != 0) {
                fill();
            }
            for (int n = 0; n < 400 && calls < CALLS - 50 && check.allRight(); n++) {
                oneThing();
            }
            if (!check.allRight()) {
                tellState(round);
            }
        }
        StringBuilder seen = new StringBuilder("ends seen:");
        for (int end : ends) {
            seen.append(' ').append(end);
        }
        System.out.println(seen + "; goings on up to " + mostGoings + ", askings up to " + mostAskings
            + ", told apart by replies " + apartFound);
        check.due("every end is seen", seen.indexOf(" 0") < 0 ? 1 : 0, 1);
        check.due("goings on to the limit", mostGoings, 40);
        check.due("some are told apart by replies", apartFound > 0 ? 1 : 0, 1);
    }

    private void tellState(int round) {
        System.out.println("round " + round + ", pad " + m.pad + ", replies " + m.replies);
        System.out.println("texts " + java.util.Arrays.toString(m.texts));
        System.out.println("clauses " + java.util.Arrays.deepToString(m.clauses));
    }

    private int pick(int from, int to) {
        return from + random.nextInt(to - from + 1);
    }

    /** Mostly a number from 0 to most, seldom one beside them. */
    private int near(int most) {
        if (random.nextInt(60) == 0) {
            int[] odd = {-1, -2, most + 1, most + 2, Integer.MIN_VALUE, Integer.MAX_VALUE, 100};
            return odd[random.nextInt(odd.length)];
        }
        return pick(0, most);
    }

    private void due(String what, int got, int want) {
        calls++;
        check.due(what, got, want);
    }

    private void oneThing() {
        switch (random.nextInt(16)) {
            case 0 -> writeText();
            case 1, 2 -> writeClause();
            case 3 -> wildSigns();
            case 4 -> replies();
            case 5, 6, 7, 8 -> aRun();
            case 9, 10 -> unrun();
            case 11, 12, 13 -> allRows();
            case 14 -> apart();
            default -> small();
        }
    }

    /** Texts within hands that have clauses, so that runs are not short. */
    private void fill() {
        for (int t = 0; t < 4; t++) {
            String signs = "@" + random.nextInt(4) + grown(pick(4, 18), 8, false);
            say(t % 2 == 1 && random.nextBoolean() ? changed(m.texts[t - 1]) : signs);
            due("text " + t, x.text(t), m.text(t));
        }
        for (int n = pick(3, 9); n > 0; n--) {
            int d = random.nextInt(4);
            int h = random.nextInt(4);
            say(grown(pick(2, 14), 9, d < 3));
            due("clause", x.clause(h, d), m.clause(h, d));
        }
    }

    /** The same text but for one number, so that few replies tell the two apart. */
    private String changed(String signs) {
        StringBuilder one = new StringBuilder(signs);
        for (int n = 0; n < 50; n++) {
            int at = random.nextInt(one.length());
            if ("0123".indexOf(one.charAt(at)) >= 0) {
                one.setCharAt(at, (char) ('0' + random.nextInt(4)));
                return one.toString();
            }
        }
        return signs;
    }

    private void say(String signs) {
        for (int i = 0; i < signs.length(); i++) {
            due("say", x.say(signs.charAt(i)), m.say(signs.charAt(i)));
        }
    }

    private void writeText() {
        if (m.pad.isEmpty()) {
            say(grown(pick(1, 24), 9, false));
        }
        int t = near(3);
        due("text " + t, x.text(t), m.text(t));
        pad();
    }

    private void writeClause() {
        if (m.pad.isEmpty()) {
            say(grown(pick(1, 16), 9, random.nextInt(5) > 0));
        }
        int h = near(3);
        int d = near(3);
        due("clause", x.clause(h, d), m.clause(h, d));
        pad();
    }

    private void pad() {
        due("fault(0)", x.fault(0), m.fault(0));
        due("fault(1)", x.fault(1), m.fault(1));
        due("wipe", x.wipe(), m.wipe());
    }

    private void wildSigns() {
        if (random.nextInt(4) == 0) {
            int s = near(200);
            due("say " + s, x.say(s), m.say(s));
            return;
        }
        StringBuilder signs = new StringBuilder(grown(pick(1, 38), 11, random.nextBoolean()));
        signs.setLength(Math.min(signs.length(), 40));
        if (signs.length() > 0 && random.nextBoolean()) {
            signs.setCharAt(random.nextInt(signs.length()), "01234567x+-*m?pqr@kz8A~!".charAt(random.nextInt(24)));
        }
        if (signs.length() > 0 && random.nextInt(4) == 0) {
            signs.setLength(random.nextInt(signs.length()));
        }
        due("wipe", x.wipe(), m.wipe());
        say(signs.toString());
        int how = near(1);
        due("fault " + how + " of " + signs, x.fault(how), m.fault(how));
        due("fault(0) of " + signs, x.fault(0), m.fault(0));
        due("fault(1) of " + signs, x.fault(1), m.fault(1));
        if (random.nextBoolean()) {
            due("wipe", x.wipe(), m.wipe());
        }
    }

    private void replies() {
        if (random.nextInt(3) == 0) {
            due("mute", x.mute(), m.mute());
        }
        for (int n = pick(1, 4); n > 0; n--) {
            int v = near(7);
            due("reply", x.reply(v), m.reply(v));
        }
    }

    private void aRun() {
        int t = near(3);
        int a = near(7);
        for (int what = 0; what < 7; what++) {
            due("run(" + t + ", " + a + ", " + what + ")", x.run(t, a, what), m.run(t, a, what));
        }
        int what = near(6);
        due("run", x.run(t, a, what), m.run(t, a, what));
        int askings = Math.max(0, x.run(t, a, 6));
        int i = random.nextBoolean() ? near(199) : pick(0, askings + 1);
        due("who(" + t + ", " + a + ", " + i + ")", x.who(t, a, i), m.who(t, a, i));
        calls++;
        if (t >= 0 && t < 4 && a >= 0 && a < 8) {
            ends[m.end]++;
            mostGoings = Math.max(mostGoings, m.goings);
            mostAskings = Math.max(mostAskings, m.answers.size());
        }
    }

    private void unrun() {
        int h = near(4) - 1;
        int w = near(3);
        due("may(" + h + ", " + w + ")", x.may(h, w), m.may(h, w));
        h = near(3);
        due("often(" + h + ", " + w + ")", x.often(h, w), m.often(h, w));
        due("has", x.has(h), m.has(h));
    }

    private void allRows() {
        int t = near(3);
        int a = near(7);
        int length = near(4);
        int c = near(2);
        due("all(" + t + ", " + a + ", " + length + ", " + c + ")", x.all(t, a, length, c), m.all(t, a, length, c));
        int end = near(9);
        int i = near(6) - 1;
        due("row(" + t + ", " + a + ", " + length + ", " + c + ", " + end + ", " + i + ")",
            x.row(t, a, length, c, end, i), m.row(t, a, length, c, end, i));
    }

    private void apart() {
        int t = near(3);
        int a = near(7);
        int o = random.nextBoolean() ? t ^ random.nextInt(2) : near(3);
        int with = near(7);
        int length = near(4);
        int c = near(2);
        int i = near(6) - 1;
        int want = m.apart(t, a, o, with, length, c, i);
        due("apart(" + t + ", " + a + ", " + o + ", " + with + ", " + length + ", " + c + ", " + i + ")",
            x.apart(t, a, o, with, length, c, i), want);
        if (i == -1 && want > 0) {
            apartFound++;
        }
    }

    private void small() {
        int what = pick(0, 15);
        due("told", x.told(what), m.told(what));
        int h = near(3);
        if (random.nextInt(3) == 0) {
            int d = near(3);
            due("drop", x.drop(h, d), m.drop(h, d));
        }
        due("has", x.has(h), m.has(h));
    }

    /** A text of about that many signs, not deeper than that; 40 at most where it can stand. */
    private String grown(int size, int depth, boolean goes) {
        for (int n = 0; n < 100; n++) {
            String signs = grow(size, depth, goes);
            if (signs.length() <= 40) {
                return signs;
            }
        }
        return "x";
    }

    private String grow(int size, int depth, boolean goes) {
        if (size <= 1 || depth == 0) {
            return "x01234567xxx".charAt(random.nextInt(12)) + "";
        }
        int left = size - 1;
        switch (random.nextInt(goes ? 12 : 9)) {
            case 0, 1: {
                int part = 1 + random.nextInt(left);
                return "+-*m".charAt(random.nextInt(4)) + grow(part, depth - 1, goes)
                    + grow(left - part, depth - 1, goes);
            }
            case 2: {
                int part = 1 + random.nextInt(left);
                int rest = left - part;
                return "?" + grow(part, depth - 1, goes) + grow(rest / 2, depth - 1, goes)
                    + grow(rest - rest / 2, depth - 1, goes);
            }
            case 3, 4, 5:
                return "pqr".charAt(random.nextInt(3)) + grow(left, depth - 1, goes);
            case 6, 7, 8:
                return "@" + random.nextInt(4) + grow(left - 1, depth - 1, goes);
            default:
                return "k" + grow(left, depth - 1, goes);
        }
    }
}
