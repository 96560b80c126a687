/** Counts wrong answers and ends a test with exit code 1 if there was one. */
final class Check {
    private int asked = 0;
    private int wrong = 0;

    void due(String what, long got, long want) {
        asked++;
        if (got != want) {
            wrong++;
            if (wrong <= 20) {
                System.out.println(what + " answered " + got + ", due is " + want);
            }
        }
    }

    boolean allRight() {
        return wrong == 0;
    }

    void end(String name) {
        System.out.println(name + ": " + asked + " answers, " + wrong + " wrong");
        if (wrong != 0 || asked == 0) {
            System.exit(1);
        }
    }

    /** Says the signs of a string on an empty pad. */
    void say(DeedHands x, String signs) {
        for (int i = 0; i < signs.length(); i++) {
            due("say " + signs.charAt(i) + " of " + signs, x.say(signs.charAt(i)), i + 1);
        }
    }

    void text(DeedHands x, int text, String signs) {
        say(x, signs);
        due("text(" + text + ") " + signs, x.text(text), signs.length());
    }

    void clause(DeedHands x, int hand, int deed, String signs) {
        say(x, signs);
        due("clause(" + hand + ", " + deed + ") " + signs, x.clause(hand, deed), signs.length());
    }

    /** A new object with pages: "2 x" is text 2, "03 x" is hand 0's clause for 3. */
    DeedHands written(String... pages) {
        DeedHands x = new DeedHands();
        for (String page : pages) {
            int gap = page.indexOf(' ');
            String signs = page.substring(gap + 1);
            if (gap == 1) {
                text(x, page.charAt(0) - '0', signs);
            } else {
                clause(x, page.charAt(0) - '0', page.charAt(1) - '0', signs);
            }
        }
        return x;
    }

    void replies(DeedHands x, int... values) {
        for (int v : values) {
            int before = x.told(1);
            due("reply(" + v + ")", x.reply(v), before + 1);
        }
    }

    /** Says signs, looks at both faults and wipes. */
    void faults(DeedHands x, String signs, int without, int with) {
        say(x, signs);
        due("fault(0) of " + signs, x.fault(0), without);
        due("fault(1) of " + signs, x.fault(1), with);
        due("wipe of " + signs, x.wipe(), signs.length());
    }

    /** All seven numbers of a run. */
    void run(DeedHands x, int text, int argument, int... want) {
        for (int what = 0; what < want.length; what++) {
            due("run(" + text + ", " + argument + ", " + what + ")", x.run(text, argument, what), want[what]);
        }
    }

    /** Who answers all askings of a run, and that there are no more. */
    void who(DeedHands x, int text, int argument, int... want) {
        for (int i = 0; i < want.length; i++) {
            due("who(" + text + ", " + argument + ", " + i + ")", x.who(text, argument, i), want[i]);
        }
        due("who behind the last", x.who(text, argument, want.length), DeedHands.NONE);
    }
}
