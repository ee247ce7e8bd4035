/** All that an object answers, in one text; with the calls that Trial.full() makes it stays below 512 calls. */
final class Portrait {
    private static final int ALL_WAYS_BUT_ONE = 31;

    private final DarkSitting x;
    private final StringBuilder said = new StringBuilder();
    private final int[] counts = new int[10];

    private Portrait(DarkSitting of) {
        x = of;
    }

    static String of(DarkSitting x) {
        int fault = x.fault();
        Portrait p = new Portrait(x);
        p.say("fault", fault);
        p.askRows();
        // These use up the TAPE and go back to THE IMAGE, so they come last.
        p.askTape();
        p.askImage();
        return p.said.toString();
    }

    /** Without TAPE and fault(), for calls that use the TAPE up. */
    static String ofRows(DarkSitting x) {
        Portrait p = new Portrait(x);
        p.askRows();
        p.askImage();
        return p.said.toString();
    }

    private void say(String what, Object answer) {
        said.append(what).append('=').append(answer).append(' ');
    }

    private void askCounts() {
        for (int what = 0; what < 10; what++) {
            counts[what] = x.count(what);
            say("count" + what, counts[what]);
        }
    }

    private void askRows() {
        askCounts();
        askSittings();
        askNights();
        askWordsAndKnots();
    }

    private void askSittings() {
        for (int rule = 0; rule < counts[1]; rule++) {
            for (int what = 0; what < 5; what++) {
                say("look", x.look(rule, what));
            }
            for (int way = 0; way < counts[2]; way++) {
                say("needs", x.needs(way, rule, 5, 2, rule % 2 == 0));
            }
            for (int thing = 0; thing < counts[3]; thing++) {
                say("earliest", x.earliest(rule, ALL_WAYS_BUT_ONE, true, thing));
            }
            say("can", x.can(rule, -1, true));
            say("fewest", x.fewest(rule, false));
            say("may", x.may(rule, -1, false, 5));
            say("opens", counts[3] == 0 ? "" : x.opens(rule, counts[3] - 1));
        }
        for (int thing = 0; thing < counts[3]; thing++) {
            say("shut", x.shut(thing));
        }
    }

    private void askNights() {
        for (int story = 0; story < counts[6]; story++) {
            say("odds", x.odds(story));
            say("oddsBy", x.oddsBy(story, counts[7] / 2));
            for (int night = 0; night < counts[7]; night++) {
                say("factor", x.factor(story, night));
            }
        }
        for (int trap = 0; trap < counts[5]; trap++) {
            say("says", x.says(trap));
        }
        for (int person = 0; person < 8; person++) {
            for (int what = person % 2; what < 4; what += 2) {
                say("with", x.with(person, what));
            }
        }
    }

    private void askWordsAndKnots() {
        for (int day : new int[] {0, 100, 365}) {
            say("knows", x.knows(day));
            say("whence", x.whence(day, false));
            say("must", x.whence(day, true));
        }
        for (int knot = 0; knot <= counts[9]; knot++) {
            int knots = knot == counts[9] ? -1 : 1 << knot;
            say("out", x.out(knots, false));
            say("outAndIn", x.out(knots, true));
            say("first", x.first(knots));
        }
    }

    private void askTape() {
        int behind = x.feed(0, 0, 0, 0, 0);
        say("tape", behind);
        say("end", x.end(behind - 20));
        String thrown = "nothing";
        try {
            x.rule();
        } catch (RuntimeException e) {
            thrown = e.getClass().getSimpleName();
        }
        say("text", thrown);
        say("fault", x.fault());
    }

    private void askImage() {
        say("back", x.back());
        askCounts();
    }
}
