import java.util.function.Consumer;

/** Boundary cases of RULES, WAYS and COURSES: promises 9, 10 and 13 to 18, and ==== 2. */
public final class SittingBoundariesTest {
    private static final int HAND = 0;
    private static final int FOOT = 1;
    private static final int REACH_5 = 4;
    private static final int NOTHING = 5;

    private static void none(String what, Consumer<DarkSitting> call) {
        Trial.refused(what, Trial.ARGUMENT, Trial::some, call);
        Trial.refused(what + ", and it is full", Trial.ARGUMENT, Trial::full, call);
    }

    private static void noRow(String what, Consumer<DarkSitting> call) {
        Trial.refused(what, Trial.INDEX, Trial::some, call);
        Trial.refused(what + ", and it is full", Trial.INDEX, Trial::full, call);
    }

    private static void looks(String rule, int last, int lit, int lines, int held, int tied) {
        DarkSitting x = new DarkSitting();
        Trial.rule(x, rule);
        Trial.is("promise 9: last of " + rule, last, x.look(0, 0));
        Trial.is("promise 9: lit of " + rule, lit, x.look(0, 1));
        Trial.is("promise 9: lines of " + rule, lines, x.look(0, 2));
        Trial.is("promise 9: held of " + rule, held, x.look(0, 3));
        Trial.is("promise 9: tied of " + rule, tied, x.look(0, 4));
    }

    /** "last NUMBER ... (seconds; 120 without)"; "how many seconds of it are lit (ahead of the last)". */
    private static void promise9Numbers() {
        looks("", 120, 0, 0, 0, 0);
        looks("last 1", 1, 0, 1, 0, 0);
        looks("last 300", 300, 0, 1, 0, 0);
        looks("last 300;last 1", 1, 0, 2, 0, 0);
        looks("lit 0 to 300", 120, 120, 1, 0, 0);
        looks("lit 0 to 300;last 300", 300, 300, 2, 0, 0);
        looks("lit 0 to 300;last 1", 1, 1, 2, 0, 0);
        looks("lit 0 to 0;lit 300 to 300", 120, 0, 2, 0, 0);
        looks("lit 0 to 1", 120, 1, 1, 0, 0);
        looks("lit 119 to 300", 120, 1, 1, 0, 0);
        looks("lit 120 to 300", 120, 0, 1, 0, 0);
        looks("lit 0 to 119", 120, 119, 1, 0, 0);
        looks("lit 0 to 120", 120, 120, 1, 0, 0);
        looks("lit 3 to 6;lit 5 to 8;lit 3 to 4", 120, 5, 3, 0, 0);
        looks("lit 3 to 6;lit 6 to 8;lit 9 to 10", 120, 6, 3, 0, 0);
    }

    /** LIMBS 0 to 3, each for itself and all; at most 10 LINES; a LIMB may be held and tied. */
    private static void promise9Limbs() {
        for (int limb = 0; limb < 4; limb++) {
            looks("hold " + limb + " by 1", 120, 0, 1, 1 << limb, 0);
            looks("hold " + limb + " by 7", 120, 0, 1, 1 << limb, 0);
            looks("tie " + limb + " 0", 120, 0, 1, 0, 1 << limb);
            looks("tie " + limb + " 99;tie " + limb + " 1", 120, 0, 2, 0, 1 << limb);
            looks("hold " + limb + " by 1;tie " + limb + " 2;hold " + limb + " by 3", 120, 0, 3, 1 << limb, 1 << limb);
        }
        looks("hold 0 by 1;hold 1 by 1;hold 2 by 1;hold 3 by 1;tie 0 1;tie 1 1;tie 2 1;tie 3 1;lit 1 to 2;last 2",
                2, 1, 10, 15, 15);
    }

    /** "NoSuchElementException: another what"; a RULE that is not there comes first. */
    private static void promise9Refused() {
        for (int what : new int[] {-1, 5, 6, Trial.MIN, Trial.MAX}) {
            Trial.refused("promise 9: what " + what, Trial.NO_ELEMENT, Trial::some, x -> x.look(0, what));
            Trial.refused("promise 9: what " + what, Trial.NO_ELEMENT, Trial::full, x -> x.look(3, what));
            noRow("promise 9: no rule, and what " + what, x -> x.look(-1, what));
        }
        noRow("promise 9: as many as there are", x -> x.look(x.count(1), 0));
        noRow("promise 9: far below", x -> x.look(Trial.MIN, 0));
        noRow("promise 9: far above", x -> x.look(Trial.MAX, 5));
    }

    private static void need(boolean due, String rule, String need, int second, int limbs) {
        DarkSitting x = new DarkSitting();
        x.person(0, 0);
        x.person(9, 10);
        x.person(4, 0);
        x.person(7, 400);
        Trial.rule(x, rule);
        Trial.way(x, "need " + need);
        Trial.is("promise 10: " + need + " by " + rule + " at " + second + " with " + limbs, due,
                x.needs(0, 0, second, limbs, false));
    }

    /** "a second (0 to 300)", "LIMBS that are FREE (bits)". */
    private static void promise10Numbers() {
        need(true, "", "second < 1", 0, 0);
        need(true, "", "second > 299 and second < 301", 300, 15);
        need(true, "", "limbs < 1 and not loose 0", 0, 0);
        need(true, "", "limbs > 3 and limbs < 5 and loose 3", 0, 15);
        for (int limbs = 0; limbs < 16; limbs++) {
            need(true, "", "limbs + 1 > " + Integer.bitCount(limbs) + " and limbs < " + (Integer.bitCount(limbs) + 1), 0, limbs);
            for (int limb = 0; limb < 4; limb++) {
                need((limbs >> limb & 1) == 1, "", "loose " + limb, 300, limbs);
            }
        }
        none("promise 10: second -1", x -> x.needs(0, 0, -1, 0, false));
        none("promise 10: second 301", x -> x.needs(0, 0, 301, 0, false));
        none("promise 10: limbs -1", x -> x.needs(0, 0, 0, -1, false));
        none("promise 10: limbs 16", x -> x.needs(0, 0, 0, 16, false));
        none("promise 10: the highest bit", x -> x.needs(0, 0, 0, Trial.MIN, false));
        none("promise 10: far away", x -> x.needs(0, 0, Trial.MAX, Trial.MAX, true));
        noRow("promise 10: way -1", x -> x.needs(-1, 0, 301, 16, false));
        noRow("promise 10: rule -1", x -> x.needs(0, -1, 301, 16, false));
        noRow("promise 10: as many ways as there are", x -> x.needs(x.count(2), 0, 0, 0, false));
        noRow("promise 10: as many rules as there are", x -> x.needs(0, x.count(1), 0, 0, false));
    }

    /** "lit from the first second on, ahead of the second one"; dark: it is not lit then. */
    private static void promise10Dark() {
        String rule = "lit 5 to 8;lit 0 to 1;lit 290 to 300;last 200";
        for (int second : new int[] {0, 1, 4, 5, 7, 8, 289, 290, 299, 300}) {
            boolean lit = second < 1 || second >= 5 && second < 8 || second >= 290 && second < 300;
            need(!lit, rule, "dark", second, 0);
            need(lit, rule, "not dark", second, 0);
            need(true, "lit " + second + " to " + second, "dark", second, 0);
        }
    }

    /** "TIRES of who holds it is not above the second"; "(A holder who is not there ... KNOWS 0, TIRES 0.)" */
    private static void promise10Holders() {
        need(false, "hold 0 by 1", "tired 0", 9, 0);
        need(true, "hold 0 by 1", "tired 0", 10, 0);
        need(true, "hold 0 by 1", "tired 0", 11, 0);
        need(true, "hold 0 by 2", "tired 0", 0, 0);
        need(false, "hold 0 by 3", "tired 0", 300, 0);
        need(true, "hold 0 by 4", "tired 0 and held 0 and knows 0 < 1", 0, 0);
        need(true, "hold 0 by 7", "tired 0 and held 0 and knows 0 < 1", 0, 0);
        need(false, "", "tired 0", 300, 0);
        need(false, "tie 0 0", "tired 0 or held 0", 300, 0);
        need(true, "hold 0 by 1", "knows 0 > 8 and knows 0 < 10", 0, 0);
        need(true, "", "knows 0 + knows 1 + knows 2 + knows 3 < 1", 0, 0);
        need(true, "hold 1 by 1", "knows 0 < 1 and knows 1 > 8", 0, 0);
        need(true, "hold 0 by 1;hold 0 by 2", "knows 0 > 3 and knows 0 < 5", 0, 0);
        need(true, "hold 0 by 2;hold 0 by 1", "knows 0 > 8", 0, 0);
        need(true, "hold 0 by 1;hold 0 by 5", "knows 0 < 1", 0, 0);
        DarkSitting x = new DarkSitting();
        Trial.rule(x, "hold 3 by 7");
        Trial.way(x, "need tired 3");
        for (int person = 0; person < 8; person++) {
            Trial.is("promise 10: 7 is not there, but " + person, true, x.needs(0, 0, 0, 0, false));
            x.person(0, 1);
        }
        Trial.is("promise 10: 7 is there", false, x.needs(0, 0, 0, 0, false));
        Trial.is("promise 10: 7 is tired by then", true, x.needs(0, 0, 1, 0, false));
    }

    /** "slack: of what ties it (99 without)". */
    private static void promise10Slack() {
        for (int slack : new int[] {0, 1, 98, 99}) {
            need(true, "tie 2 " + slack, "slack 2 + 1 > " + slack + " and slack 2 < " + (slack + 1), 0, 0);
        }
        need(true, "", "slack 2 > 98 and slack 2 < 100", 0, 0);
        need(true, "tie 1 0;hold 2 by 1", "slack 2 > 98 and not tied 2 and tied 1 and not held 1", 0, 0);
        need(true, "tie 2 5;tie 2 0", "slack 2 < 1", 0, 0);
        need(true, "tie 2 0", "tied 2", 0, 0);
        need(true, "tie 2 99", "tied 2", 0, 0);
    }

    /** A WAY without need LINES; all need LINES count, the first and the tenth. */
    private static void promise10Lines() {
        for (int bad = 0; bad < 10; bad++) {
            StringBuilder b = new StringBuilder();
            for (int line = 0; line < 10; line++) {
                b.append(line == 0 ? "need " : ";need ").append(line == bad ? "helped" : "dark");
            }
            DarkSitting x = new DarkSitting();
            Trial.rule(x, "");
            Trial.way(x, b.toString());
            Trial.way(x, "");
            Trial.is("promise 10: line " + bad + " counts", false, x.needs(0, 0, 0, 0, false));
            Trial.is("promise 10: all hold", true, x.needs(0, 0, 0, 0, true));
            Trial.is("promise 10: no line", true, x.needs(1, 0, 300, 15, false));
        }
    }

    private static int earliest(String rule, String way, int thing) {
        return Trial.table(rule, way).earliest(0, 1, false, thing);
    }

    /** "It ends at the RULE's last second (its end: a second, too), and nothing goes beyond that"; "At the end none is." */
    private static void promise15End() {
        Trial.is("promise 15: one ahead of the end", 9, earliest("last 10", "free 0;take 9", HAND));
        Trial.is("promise 15: at the end no limb is free", Trial.NONE, earliest("last 10", "free 0;take 10", HAND));
        Trial.is("promise 15: beyond the end", Trial.NONE, earliest("last 10", "free 0;take 11", HAND));
        Trial.is("promise 15: a second alone", Trial.NONE, earliest("last 1", "free 0", HAND));
        Trial.is("promise 15: two seconds", 1, earliest("last 2", "free 0", HAND));
        Trial.is("promise 15: nothing needed at once", 0, earliest("last 1", "free 0", NOTHING));
        Trial.is("promise 15: the longest way", 60, earliest("last 61", "free 0;take 60", HAND));
        Trial.is("promise 15: the longest way up to the end", Trial.NONE, earliest("last 60", "free 0;take 60", HAND));
        Trial.is("promise 15: without a last line", 119, earliest("", "free 0;need second > 117", HAND));
        Trial.is("promise 15: without a last line, too late", Trial.NONE, earliest("", "free 0;need second > 118", HAND));
        Trial.is("promise 15: the latest of all", 299, earliest("last 300", "free 0;take 60;need second > 238", HAND));
        Trial.is("promise 15: later than all", Trial.NONE, earliest("last 300", "free 0;take 60;need second > 239", HAND));
    }

    /** "at no second from 0 to the end at which it is lit a LIMB may be FREE". */
    private static void promise15Seen() {
        Trial.is("promise 15: lit ahead of it", 3, earliest("last 10;lit 0 to 3", "free 0;take 3", HAND));
        Trial.is("promise 15: lit at it", 4, earliest("last 10;lit 0 to 4", "free 0;take 3", HAND));
        Trial.is("promise 15: lit to one ahead of the end", 9, earliest("last 10;lit 0 to 9", "free 0", HAND));
        Trial.is("promise 15: lit to the end", Trial.NONE, earliest("last 10;lit 0 to 10", "free 0", HAND));
        Trial.is("promise 15: lit to behind the end", Trial.NONE, earliest("last 10;lit 0 to 300", "free 0", HAND));
        Trial.is("promise 15: lit from the end on", 1, earliest("last 10;lit 10 to 300", "free 0", HAND));
        Trial.is("promise 15: lit at no second", 1, earliest("last 10;lit 1 to 1", "free 0", HAND));
        Trial.is("promise 15: lit at second 0", 1, earliest("last 10;lit 0 to 1", "free 0", HAND));
        DarkSitting x = Trial.table("last 9;lit 4 to 5", "free 0;take 2", "free 1;take 2;need loose 0");
        Trial.is("promise 15: both ahead of the light", Trial.NONE, Trial.table("last 6;lit 4 to 5",
                "free 0;take 2", "free 1;take 2;need loose 0").earliest(0, 3, false, 2));
        Trial.is("promise 15: both behind the light", 7, x.earliest(0, 3, false, 2));
    }

    /** "if all its need LINES hold at each of the seconds that it takes, with the LIMBS that are FREE at its begin". */
    private static void promise15Needs() {
        Trial.is("promise 15: at the first second", Trial.NONE, earliest("last 3", "free 0;take 2;need second > 0", HAND));
        Trial.is("promise 15: at the first second, one more", 3, earliest("last 4", "free 0;take 2;need second > 0", HAND));
        Trial.is("promise 15: at the last second", 4, earliest("last 9", "free 0;take 4;need second < 4", HAND));
        Trial.is("promise 15: not at the last second", Trial.NONE, earliest("last 9", "free 0;take 4;need second < 3", HAND));
        Trial.is("promise 15: at one between", 7, earliest("last 9;lit 2 to 3", "free 0;take 4;need dark", HAND));
        Trial.is("promise 15: not behind its seconds", 2, earliest("last 9;lit 3 to 9", "free 0;take 2;need dark", HAND));
        Trial.is("promise 15: the light comes as it ends", Trial.NONE, earliest("last 9;lit 2 to 9", "free 0;take 2;need dark", HAND));
        Trial.is("promise 15: with what is free at its begin", 5,
                earliest("last 9", "free 0;free 1;take 5;need limbs < 1 and not loose 0", 2));
        DarkSitting x = Trial.table("last 9", "free 0", "free 0;free 1;need loose 0", "free 1;need not loose 1;need limbs > 1");
        Trial.is("promise 15: frees one that is not free", 2, x.earliest(0, 3, false, 2));
        Trial.is("promise 15: both free none", Trial.NONE, x.earliest(0, 5, false, 2));
        DarkSitting y = Trial.table("last 9", "free 0;reach 5", "need dark");
        Trial.is("promise 15: a way that frees nothing", Trial.NONE, y.earliest(0, 2, false, HAND));
    }

    private static final String[] TURNING_NEEDS = {"dark", "not dark or second > 250", "second > 50 and second < 110",
        "second + second < 101 or second + 3 > 200", "limbs + second > 120", "second + 1 > second", "second > second",
        "100 > second + second + second or 700 < second + second + second", "tired 0", "not tired 1", "dark and tired 1",
        "tired 3 or tired 2 or second > 297", "second + slack 2 > 100 and knows 0 + second < 160",
        "not (second < 30 or second > 33) or second > 133 and second < 150", "5 + limbs < second and not dark or helped",
        "second + 4 + slack 0 > 3 + second + second", "99 > second + second + second", "101 > second + second + second",
        "second + second + second < 100 or 300 < second + second", "not 60 > second", "not 60 < second"};

    private static DarkSitting turning(String... needs) {
        DarkSitting x = new DarkSitting();
        x.person(0, 0);
        x.person(9, 55);
        x.person(3, 210);
        x.thing(1, 0, 0);
        Trial.rule(x, "hold 0 by 1;hold 1 by 2;hold 3 by 5;tie 2 7;lit 0 to 2;lit 40 to 43;lit 43 to 44;lit 90 to 91;"
                + "lit 299 to 300;last 300");
        for (String need : needs) {
            Trial.way(x, need);
        }
        return x;
    }

    private static int firstBehind(DarkSitting x, int second, int take) {
        for (int begin = second + 1; begin + take < 300; begin++) {
            boolean goes = x.needs(1, 0, begin + take, 0, false);
            for (int k = begin; k < begin + take && goes; k++) {
                goes = x.needs(0, 0, k, 0, false);
            }
            if (goes) {
                return begin + take;
            }
        }
        return Trial.NONE;
    }

    /** "at each of the seconds that it takes ... (second goes on)": as needs() tells it of each second for itself. */
    private static void promise15EachSecond() {
        for (String need : TURNING_NEEDS) {
            DarkSitting asked = turning("need " + need, "need dark");
            for (int take : new int[] {1, 2, 3, 7, 60}) {
                for (int behind = 0; behind < 300; behind += 6) {
                    String[] ways = new String[6];
                    for (int way = 0; way < 6; way++) {
                        ways[way] = "free 0;take " + take + ";need " + need + ";need second > " + (behind + way);
                    }
                    DarkSitting x = turning(ways);
                    for (int way = 0; way < 6; way++) {
                        Trial.is("promise 15: " + ways[way], firstBehind(asked, behind + way, take),
                                x.earliest(0, 1 << way, false, 0));
                    }
                }
            }
        }
    }

    /** HANDS and FEET "at least"; "the greatest reach of all WAYS that are used must have at least". */
    private static void promise15Things() {
        for (int hands = 0; hands <= 2; hands++) {
            for (int feet = 0; feet <= 2; feet++) {
                DarkSitting x = new DarkSitting();
                Trial.rule(x, "last 20");
                Trial.way(x, "free 0;free 3");
                Trial.way(x, "free 1;free 2;take 3");
                x.thing(hands, feet, 0);
                boolean fits = hands <= 1 && feet <= 1;
                String thing = hands + " hands and " + feet + " feet";
                int atOnce = hands + feet == 0 ? 0 : 1;
                Trial.is("promise 15: one of each for " + thing, fits ? atOnce : Trial.NONE, x.earliest(0, 1, false, 0));
                Trial.is("promise 15: two of each for " + thing, fits ? atOnce : 4, x.earliest(0, 3, false, 0));
            }
        }
        for (int reach = 0; reach <= 9; reach++) {
            DarkSitting x = new DarkSitting();
            Trial.rule(x, "last 20");
            Trial.way(x, "reach 1;reach 5");
            Trial.way(x, "reach 3");
            Trial.way(x, "free 0");
            x.thing(0, 0, reach);
            Trial.is("promise 15: reach 5 for " + reach, reach <= 5 ? 0 : Trial.NONE, x.earliest(0, -1, false, 0));
            Trial.is("promise 15: reach 3 for " + reach, reach <= 3 ? 0 : Trial.NONE, x.earliest(0, 2, false, 0));
            Trial.is("promise 15: no reach for " + reach, reach == 0 ? 0 : Trial.NONE, x.earliest(0, 4, false, 0));
            Trial.is("promise 15: no ways for " + reach, reach == 0 ? 0 : Trial.NONE, x.earliest(0, 0, false, 0));
        }
        DarkSitting z = Trial.table("last 9", "free 0;reach 9");
        Trial.is("promise 15: it need not go to be used", 0, z.earliest(0, 1, false, REACH_5));
    }

    /** Bits of none count for nothing; a RULE or a THING that is not there. */
    private static void promise15Refused() {
        DarkSitting x = Trial.table("last 9", "free 0");
        for (int more : new int[] {2, 32, 64, 1 << 30, Trial.MIN, -2}) {
            Trial.is("promise 15: with bits of none", 1, x.earliest(0, 1 | more, false, HAND));
            Trial.is("promise 15: bits of none alone", Trial.NONE, x.earliest(0, more, false, HAND));
        }
        noRow("promise 15: rule -1", y -> y.earliest(-1, 1, false, 0));
        noRow("promise 15: as many rules as there are", y -> y.earliest(y.count(1), 1, false, 0));
        noRow("promise 15: thing -1", y -> y.earliest(0, 1, false, -1));
        noRow("promise 15: as many things as there are", y -> y.earliest(0, 1, false, y.count(3)));
        noRow("promise 15: far away", y -> y.earliest(Trial.MAX, 0, true, Trial.MIN));
        DarkSitting z = new DarkSitting();
        Trial.rule(z, "");
        Trial.throwing("promise 15: a rule, but no thing", Trial.INDEX, () -> z.earliest(0, 0, false, 0));
    }

    /** "all LIMBS that are FREE at a second in some COURSE ... (each for itself; 0 behind the end)". */
    private static void promise16() {
        DarkSitting x = Trial.table("last 300", "free 0;free 1;free 2;free 3;take 5");
        int[] seconds = {0, 1, 4, 5, 6, 298, 299, 300};
        int[] due = {0, 0, 0, 15, 15, 15, 15, 0};
        for (int k = 0; k < seconds.length; k++) {
            Trial.is("promise 16: at " + seconds[k], due[k], x.may(0, 1, false, seconds[k]));
        }
        DarkSitting y = Trial.table("last 6", "free 3;take 2", "free 0;take 3;need not loose 3");
        int[] each = {0, 0, 8, 9, 9, 9, 0, 0};
        for (int second = 0; second < each.length; second++) {
            Trial.is("promise 16: each for itself at " + second, each[second], y.may(0, -1, false, second));
            Trial.is("promise 16: no ways at " + second, 0, y.may(0, 0, false, second));
        }
        Trial.is("promise 16: far behind the end", 0, y.may(0, -1, false, 300));
        Trial.is("promise 16: a rule of one second", 0, Trial.table("last 1", "free 0").may(0, 1, false, 1));
        none("promise 16: second -1", z -> z.may(0, 1, false, -1));
        none("promise 16: second 301", z -> z.may(0, 1, false, 301));
        none("promise 16: far above", z -> z.may(0, 1, true, Trial.MAX));
        noRow("promise 16: rule -1", z -> z.may(-1, 1, false, 301));
        noRow("promise 16: as many as there are", z -> z.may(z.count(1), 1, false, -1));
    }

    /** CAN: NOTES at 0, at the end, and "a NOTE behind the end: none". */
    private static void promise13Seconds() {
        for (int last : new int[] {1, 2, 119, 120, 299, 300}) {
            for (int second : new int[] {0, 1, last - 1, last, last + 1, 300}) {
                if (second <= 300) {
                    DarkSitting x = Trial.table("last " + last, "free 0");
                    x.note(NOTHING, second);
                    Trial.is("promise 13: last " + last + ", nothing needed at " + second, second <= last, x.can(0, 0, false));
                    x.torn();
                    x.note(HAND, second);
                    Trial.is("promise 13: last " + last + ", a hand at " + second, second > 0 && second < last, x.can(0, 1, false));
                }
            }
        }
        DarkSitting y = Trial.table("", "free 0");
        y.note(NOTHING, 120);
        Trial.is("promise 13: at the end without a last line", true, y.can(0, 0, false));
        y.note(NOTHING, 121);
        Trial.is("promise 13: behind the end without a last line", false, y.can(0, -1, true));
    }

    /** "There is a COURSE by which all NOTES are done": none, ten, ten at one second, and the tenth that is not. */
    private static void promise13Many() {
        DarkSitting x = Trial.table("last 30", "free 0;take 2", "free 2;take 2");
        Trial.is("promise 13: no notes", true, x.can(0, 0, false));
        for (int k = 0; k < 9; k++) {
            x.note(HAND, 2 + 3 * k);
            Trial.is("promise 13: notes " + k, true, x.can(0, 1, false));
            Trial.is("promise 13: by the other way", false, x.can(0, 2, false));
        }
        x.note(FOOT, 29);
        Trial.is("promise 13: the tenth asks for a foot", false, x.can(0, 1, false));
        Trial.is("promise 13: all ten", true, x.can(0, 3, false));
        DarkSitting y = Trial.table("last 30", "free 0;take 2");
        for (int k = 0; k < 10; k++) {
            y.note(HAND, 2);
        }
        Trial.is("promise 13: ten at one second", true, y.can(0, 1, false));
        y.torn();
        for (int k = 0; k < 9; k++) {
            y.note(HAND, 2);
        }
        y.note(HAND, 1);
        Trial.is("promise 13: one second too early", false, y.can(0, 1, false));
    }

    /** "(while a WAY goes those of its begin)"; "some LIMBS that are FREE are so no more 1 second later". */
    private static void promise13While() {
        DarkSitting x = Trial.table("last 10", "free 0;take 2", "free 1;take 3;need loose 0", "free 2;take 2;need limbs < 1");
        x.note(HAND, 2);
        x.note(2, 5);
        Trial.is("promise 13: one behind the other", true, x.can(0, 3, false));
        x.note(HAND, 3);
        x.note(HAND, 4);
        Trial.is("promise 13: while the way goes", true, x.can(0, 3, false));
        x.torn();
        x.note(2, 4);
        Trial.is("promise 13: not before it has gone", false, x.can(0, 3, false));
        x.torn();
        x.note(HAND, 2);
        x.note(FOOT, 4);
        Trial.is("promise 13: let go takes a second", false, x.can(0, 5, false));
        x.torn();
        x.note(HAND, 2);
        x.note(FOOT, 5);
        Trial.is("promise 13: let go in a second, then the foot", true, x.can(0, 5, false));
        x.note(HAND, 5);
        Trial.is("promise 13: the hand is held again", false, x.can(0, 5, false));
    }

    /** Bits of none count for nothing; a RULE that is not there. */
    private static void promise13Refused() {
        DarkSitting x = Trial.table("last 9", "free 0");
        x.note(HAND, 3);
        for (int more : new int[] {2, 32, 64, 1 << 30, Trial.MIN, -2}) {
            Trial.is("promise 13: with bits of none", true, x.can(0, 1 | more, false));
            Trial.is("promise 13: bits of none alone", false, x.can(0, more, false));
        }
        for (int row : new int[] {-1, 4, Trial.MIN, Trial.MAX}) {
            noRow("promise 13: rule " + row, y -> y.can(row, 1, false));
            noRow("promise 14: rule " + row, y -> y.fewest(row, false));
        }
        noRow("promise 13: as many as there are", y -> y.can(y.count(1), 0, true));
        noRow("promise 14: as many as there are", y -> y.fewest(y.count(1), true));
    }

    /** "of all sets of WAYS by which it CAN that of the fewest, of several the least bits"; NONE. */
    private static void promise14() {
        DarkSitting x = new DarkSitting();
        Trial.rule(x, "last 40");
        Trial.is("promise 14: no ways and no notes", 0, x.fewest(0, false));
        x.thing(1, 0, 0);
        x.note(0, 20);
        Trial.is("promise 14: no ways", Trial.NONE, x.fewest(0, false));
        for (int k = 0; k < 6; k++) {
            Trial.way(x, "free 0;take " + (k + 1));
        }
        Trial.is("promise 14: of six the least bits", 1, x.fewest(0, false));
        x.torn();
        Trial.is("promise 14: ways and no notes", 0, x.fewest(0, false));

        DarkSitting y = new DarkSitting();
        Trial.rule(y, "last 40");
        for (int k = 0; k < 4; k++) {
            Trial.way(y, "free " + k);
        }
        Trial.way(y, "free 3;need helped");
        Trial.way(y, "free 0;free 1;need limbs < 1;reach 9");
        y.thing(2, 2, 0);
        y.note(0, 4);
        Trial.is("promise 14: three are fewer than four", 44, y.fewest(0, false));
        y.torn();
        y.note(0, 3);
        Trial.is("promise 14: as early as can be", 44, y.fewest(0, false));
        y.note(0, 2);
        Trial.is("promise 14: too early", Trial.NONE, y.fewest(0, true));

        DarkSitting z = new DarkSitting();
        Trial.rule(z, "last 40");
        for (int k = 0; k < 6; k++) {
            Trial.way(z, k < 4 ? "free " + k : k == 4 ? "reach 9" : "free 0;need second < 1");
        }
        z.thing(2, 2, 9);
        z.note(0, 4);
        Trial.is("promise 14: of two fives the least bits", 31, z.fewest(0, false));
    }

    /** All six WAYS are needed: none of the other 63 sets does. */
    private static void promise14All() {
        DarkSitting x = new DarkSitting();
        Trial.rule(x, "last 40;lit 10 to 11;lit 20 to 21");
        Trial.way(x, "free 0;need second < 9");
        Trial.way(x, "free 1;need second < 9");
        Trial.way(x, "free 2;need second < 19");
        Trial.way(x, "free 3;need second < 19");
        Trial.way(x, "free 0;free 1;need second > 20");
        Trial.way(x, "free 2;reach 9;need second > 30");
        x.thing(2, 0, 0);
        x.thing(0, 2, 0);
        x.thing(2, 1, 9);
        x.note(0, 9);
        x.note(1, 19);
        Trial.is("promise 14: four of six", 15, x.fewest(0, false));
        x.note(2, 39);
        Trial.is("promise 14: all six", 63, x.fewest(0, false));
        x.note(1, 39);
        Trial.is("promise 14: not even all six", Trial.NONE, x.fewest(0, false));
    }

    /** SHUT: no RULES, one and four; "with all WAYS, not helped". */
    private static void promise17() {
        DarkSitting x = new DarkSitting();
        x.thing(1, 0, 0);
        x.thing(0, 0, 0);
        x.thing(0, 0, 1);
        Trial.is("promise 17: no rules", 0, x.shut(0));
        for (int rules = 1; rules <= 4; rules++) {
            Trial.rule(x, "last " + rules);
            Trial.is("promise 17: no ways, rules " + rules, (1 << rules) - 1, x.shut(0));
            Trial.is("promise 17: nothing needed, rules " + rules, 0, x.shut(1));
            Trial.is("promise 17: reach, rules " + rules, (1 << rules) - 1, x.shut(2));
        }
        Trial.way(x, "free 0;need helped");
        Trial.is("promise 17: not helped", 15, x.shut(0));
        Trial.way(x, "free 0;take 3");
        Trial.is("promise 17: one that lasts long enough", 7, x.shut(0));
        Trial.way(x, "free 0;take 2");
        Trial.is("promise 17: with all ways", 3, x.shut(0));
        Trial.way(x, "free 0;reach 1");
        Trial.is("promise 17: never at the end", 1, x.shut(0));
        Trial.is("promise 17: it reaches", 0, x.shut(2));
        noRow("promise 17: thing -1", y -> y.shut(-1));
        noRow("promise 17: as many as there are", y -> y.shut(y.count(3)));
        noRow("promise 17: far above", y -> y.shut(Trial.MAX));
    }

    /** OPENS: "NONE, if the RULE does not shut the THING"; LINES 0 to 9, "each alone". */
    private static void promise18() {
        for (int line = 0; line < 10; line++) {
            StringBuilder b = new StringBuilder();
            for (int k = 0; k < 10; k++) {
                b.append(k == 0 ? "" : ";").append(k == line ? "lit 0 to 119" : "last 120");
            }
            DarkSitting x = Trial.table(b.toString(), "free 0;need second < 50");
            Trial.is("promise 18: line " + line, 1 << line, x.opens(0, HAND));
            Trial.is("promise 18: line " + line + " does not do for a foot", 0, x.opens(0, FOOT));
            Trial.is("promise 18: nothing needed", Trial.NONE, x.opens(0, NOTHING));
        }
        DarkSitting y = Trial.table("lit 0 to 119;lit 0 to 119", "free 0;need second < 50");
        Trial.is("promise 18: none alone", 0, y.opens(0, HAND));
        Trial.is("promise 18: no lines", 0, Trial.table("", "free 1").opens(0, FOOT));
        Trial.is("promise 18: no lines, not shut", Trial.NONE, Trial.table("", "free 1").opens(0, HAND));
        Trial.is("promise 18: another last line counts without the last one", 2,
                Trial.table("last 9;last 3", "free 0;take 5").opens(0, HAND));
        Trial.is("promise 18: the first one does not count anyway", 0,
                Trial.table("last 9;last 3", "free 0;take 9").opens(0, HAND));
        Trial.is("promise 18: 120 without", 1, Trial.table("last 3", "free 0;take 5").opens(0, HAND));
        Trial.is("promise 18: who held it before holds it without the last one", 0,
                Trial.table("hold 0 by 2;hold 0 by 3", "free 0;need not held 0").opens(0, HAND));
        Trial.is("promise 18: one holds it more easily", 2,
                Trial.table("hold 0 by 2;hold 0 by 1", "free 0;need knows 0 < 1").opens(0, HAND));
        Trial.is("promise 18: all lines, each alone", 1023, tenThatHinder().opens(0, HAND));
        Trial.is("promise 18: not helped", 0, Trial.table("last 9", "free 0;need helped").opens(0, HAND));
        noRow("promise 18: rule -1", x -> x.opens(-1, 0));
        noRow("promise 18: as many rules as there are", x -> x.opens(x.count(1), 0));
        noRow("promise 18: thing -1", x -> x.opens(0, -1));
        noRow("promise 18: as many things as there are", x -> x.opens(0, x.count(3)));
        noRow("promise 18: far away", x -> x.opens(Trial.MAX, Trial.MIN));
    }

    /** Each of ten LINES shuts it alone: some gap has to be dark, some LIMB not held or not tied. */
    private static DarkSitting tenThatHinder() {
        return Trial.table("hold 0 by 7;hold 1 by 7;hold 2 by 7;hold 3 by 7;tie 0 1;tie 1 1;tie 2 1;tie 3 1;"
                + "lit 5 to 6;last 9",
                "free 0;need not held 0 or not held 1", "free 0;need not held 2 or not held 3",
                "free 0;need not tied 0 or not tied 1", "free 0;need not tied 2 or not tied 3",
                "free 0;need dark and second > 4 and second < 6", "free 0;need second > 20");
    }

    public static void main(String[] args) {
        promise9Numbers();
        promise9Limbs();
        promise9Refused();
        promise10Numbers();
        promise10Dark();
        promise10Holders();
        promise10Slack();
        promise10Lines();
        promise13Seconds();
        promise13Many();
        promise13While();
        promise13Refused();
        promise14();
        promise14All();
        promise15End();
        promise15Seen();
        promise15Needs();
        promise15EachSecond();
        promise15Things();
        promise15Refused();
        promise16();
        promise17();
        promise18();
        Trial.ends("SittingBoundariesTest");
    }
}
