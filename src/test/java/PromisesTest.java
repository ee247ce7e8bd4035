import java.util.NoSuchElementException;

/** For each promise of the document: ordinary inputs, the edges that it names, and wrong inputs. */
public final class PromisesTest {
    private static final Class<?> ARGUMENT = IllegalArgumentException.class;
    private static final Class<?> INDEX = IndexOutOfBoundsException.class;
    private static final Class<?> FULL = UnsupportedOperationException.class;
    private static final Class<?> NO_ELEMENT = NoSuchElementException.class;
    private static final int MIN = Integer.MIN_VALUE;
    private static final int MAX = Integer.MAX_VALUE;

    private static int wrong;
    private static int checks;

    private interface Doing {
        void go();
    }

    private static void is(String what, Object want, Object got) {
        checks++;
        long due = want instanceof Boolean ? ((Boolean) want ? 1 : 0) : ((Number) want).longValue();
        long was = got instanceof Boolean ? ((Boolean) got ? 1 : 0) : ((Number) got).longValue();
        if (due != was) {
            wrong++;
            System.out.println(what + " answered " + got + ", due is " + want);
        }
    }

    private static void throwing(String what, Class<?> due, Doing call) {
        checks++;
        Class<?> was = null;
        try {
            call.go();
        } catch (RuntimeException e) {
            was = e.getClass();
        }
        if (was != due) {
            wrong++;
            System.out.println(what + " threw " + was + ", due is " + due);
        }
    }

    private static void write(DarkSitting x, String text) {
        for (int at = 0; at < text.length(); at += 20) {
            int[] n = new int[5];
            for (int k = 0; k < 20; k++) {
                n[k / 4] = n[k / 4] << 8 | (at + k < text.length() ? text.charAt(at + k) & 255 : 0);
            }
            x.feed(n[0], n[1], n[2], n[3], n[4]);
        }
        if (!x.end(text.length())) {
            wrong++;
            System.out.println("end() refused the length of " + text);
        }
    }

    private static int rule(DarkSitting x, String text) {
        write(x, text);
        return x.rule();
    }

    private static int way(DarkSitting x, String text) {
        write(x, text);
        return x.way();
    }

    private static void wrongRule(String text, int at) {
        DarkSitting x = new DarkSitting();
        write(x, text);
        throwing("rule " + text, ARGUMENT, x::rule);
        is("fault of rule " + text, at, x.fault());
        is("rules behind " + text, 0, x.count(1));
        is("tape behind " + text, 20, x.feed(0, 0, 0, 0, 0));
    }

    private static void wrongWay(String text, int at) {
        DarkSitting x = new DarkSitting();
        write(x, text);
        throwing("way " + text, ARGUMENT, x::way);
        is("fault of way " + text, at, x.fault());
        is("ways behind " + text, 0, x.count(2));
    }

    private static void rightWay(String text) {
        DarkSitting x = new DarkSitting();
        is("way " + text, 0, way(x, text));
        is("fault of way " + text, -1, x.fault());
    }

    /** Whether a need holds by a rule, at a second, with free limbs. */
    private static void need(boolean want, String rule, String need, int second, int limbs, boolean helped) {
        DarkSitting x = new DarkSitting();
        x.person(3, 10);
        x.person(5, 20);
        x.person(9, 0);
        rule(x, rule);
        way(x, "need " + need);
        is(need + " by " + rule + " at " + second + " with " + limbs, want, x.needs(0, 0, second, limbs, helped));
    }

    private static String times(String part, int many, String between) {
        StringBuilder b = new StringBuilder();
        for (int k = 0; k < many; k++) {
            b.append(k == 0 ? "" : between).append(part);
        }
        return b.toString();
    }

    private static void promise1() {
        DarkSitting x = new DarkSitting();
        for (int what = 0; what < 10; what++) {
            is("1: new count " + what, 0, x.count(what));
        }
        is("1: new fault", -1, x.fault());
        is("1: new torn", 0, x.torn());
        is("1: new back", false, x.back());
        is("1: new knows", 0, x.knows(0));
        x.knot(5, 5, 1, 0);
        is("1: new rope has no slack", -1, x.out(1, false));
        x.knot(5, 5, 0, 0);
        is("1: a need of 0", 5, x.out(2, false));
        is("1: NONE", -1, DarkSitting.NONE);
    }

    private static void promise2And3() {
        DarkSitting x = new DarkSitting();
        for (int many = 20; many <= 400; many += 20) {
            is("2: feed", many, x.feed(0x20202020, 0x20202020, 0x20202020, 0x20202020, 0x20202020));
        }
        is("2: full", -1, x.feed(0, 0, 0, 0, 0));
        is("3: end beyond", false, x.end(401));
        is("3: end below", false, x.end(-1));
        is("3: end whole", true, x.end(400));
        is("3: end shorter", true, x.end(381));
        is("2: one byte too many", -1, x.feed(0, 0, 0, 0, 0));
        is("3: no longer so many", false, x.end(382));
        is("3: end 380", true, x.end(380));
        is("2: just room", 400, x.feed(0x20202020, 0x20202020, 0x20202020, 0x20202020, 0x20202020));
        is("2: 400 blanks are a text", 0, x.rule());
        is("2: used up", 20, x.feed(-1, -1, -1, -1, -1));
        is("3: to nothing", true, x.end(0));
        is("2: high byte first", 20, x.feed(0x6c617374, 0x20370000, 0, 0, 0));
        is("3: end", true, x.end(6));
        is("2: last 7", 1, x.rule());
        is("2: last 7", 7, x.look(1, 0));
        write(x, "last 123;hold 1 by 1");
        is("3: what was cut is gone", true, x.end(6));
        is("3: last 1", 2, x.rule());
        is("3: last 1", 1, x.look(2, 0));
        write(x, "need darker;take 5");
        is("3: what was cut is gone", true, x.end(9));
        is("3: need dark", 0, x.way());
    }

    private static void promise4() {
        DarkSitting x = new DarkSitting();
        int[][] none = {{-1, 0}, {10, 0}, {0, -1}, {0, 401}, {MIN, MAX}};
        for (int[] n : none) {
            throwing("4: person " + n[0] + " " + n[1], ARGUMENT, () -> x.person(n[0], n[1]));
        }
        is("4: least", 0, x.person(0, 0));
        for (int k = 1; k < 8; k++) {
            is("4: number", k, x.person(9, 400));
        }
        throwing("4: argument first", ARGUMENT, () -> x.person(10, 0));
        throwing("4: full", FULL, () -> x.person(0, 0));
        is("4: eight", 8, x.count(0));
    }

    private static void promise5() {
        DarkSitting x = new DarkSitting();
        is("5: empty", 0, rule(x, ""));
        is("5: no line", 0, x.look(0, 2));
        is("5: blanks", 1, rule(x, "   "));
        is("5: no line", 0, x.look(1, 2));
        is("5: blanks all over", 2, rule(x, "  hold  0  by  1  ;tie 1 99;lit0to0;lit 300 to 300 ;last300  "));
        is("5: lines", 5, x.look(2, 2));
        is("5: last", 300, x.look(2, 0));
        is("5: leading naughts", 3, rule(x, "last 007;hold 03 by 007"));
        is("5: last", 7, x.look(3, 0));
        is("5: held", 8, x.look(3, 3));
        write(x, "last 0");
        throwing("5: argument first", ARGUMENT, x::rule);
        is("5: fault", 5, x.fault());
        write(x, "last 1");
        throwing("5: full", FULL, x::rule);
        is("5: right, though there was no room", -1, x.fault());
        is("5: used up", 20, x.feed(0, 0, 0, 0, 0));
        is("5: four", 4, x.count(1));

        wrongRule("Hold 0 by 1", 0);
        wrongRule("  holds 0 by 1", 2);
        wrongRule("hol 0 by 1", 0);
        wrongRule("free 0", 0);
        wrongRule("5", 0);
        wrongRule(";", 0);
        wrongRule(" ; last 1", 1);
        wrongRule("hold", 4);
        wrongRule("hold  ", 6);
        wrongRule("hold x by 1", 5);
        wrongRule("hold 4 by 1", 5);
        wrongRule("hold 0000 by 1", 5);
        wrongRule("hold 0", 6);
        wrongRule("hold 0 to 1", 7);
        wrongRule("hold 0 by", 9);
        wrongRule("hold 0 by 0", 10);
        wrongRule("hold 0 by 8", 10);
        wrongRule("hold 0 by 1 1", 12);
        wrongRule("tie 0 100", 6);
        wrongRule("tie 0 by 1", 6);
        wrongRule("tie 05", 4);
        wrongRule("tie 4 5", 4);
        wrongRule("lit 301 to 301", 4);
        wrongRule("lit 5 to 4", 9);
        wrongRule("lit 5 to 301", 9);
        wrongRule("lit 5 5", 6);
        wrongRule("lit 5 to", 8);
        wrongRule("last 0", 5);
        wrongRule("last 301", 5);
        wrongRule("last 1000", 5);
        wrongRule("last 1;", 7);
        wrongRule("last 1; ", 8);
        wrongRule("last 1;;last 1", 7);
        wrongRule("last 1 last 1", 7);
        wrongRule("last 1" + (char) 0, 6);
        wrongRule("last" + (char) 9 + "1", 4);
        wrongRule("last 1" + (char) 233, 6);
        wrongRule("last" + (char) 160 + "1", 4);
        is("5: ten lines", 0, rule(new DarkSitting(), times("last 1", 10, ";")));
        wrongRule(times("last 1", 11, ";"), 70);
        wrongRule(times("last 1", 10, ";") + ";  x", 72);
        wrongRule(times("last 1", 10, ";") + ";  ", 72);
        wrongRule(times("last 1", 10, ";") + " x", 70);
    }

    private static void promise6() {
        DarkSitting x = new DarkSitting();
        for (int k = 0; k < 6; k++) {
            is("6: number", k, way(x, k == 0 ? "" : "free 0;free 1;take 60;reach 9;need dark;need helped"));
        }
        write(x, "take 0");
        throwing("6: argument first", ARGUMENT, x::way);
        is("6: fault", 5, x.fault());
        write(x, "take 1");
        throwing("6: full", FULL, x::way);
        is("6: right, though there was no room", -1, x.fault());
        is("6: six", 6, x.count(2));

        String[] right = {"need dark", "need not dark", "need(dark)", "need ( ( dark ) ) or helped", "need 1<2",
            "need 1 < 2 and dark or not helped", "need second+limbs+knows0+slack 3>999", "need not not 1>2",
            "need ((((((dark))))))", "need (not (not (not dark)))", "need not(not(not 1<2))and not not dark",
            "need loose 0 and held 1 and tied 2 and tired 3", "need 000<000", "free0;take060;reach009",
            "reach 1;take 1;free 3", "need 1" + times("+1", 192, "") + "<999"};
        for (String text : right) {
            rightWay(text);
        }
        wrongWay("hold 0 by 1", 0);
        wrongWay("free", 4);
        wrongWay("free 4", 5);
        wrongWay("take 61", 5);
        wrongWay("reach 0", 6);
        wrongWay("reach 10", 6);
        wrongWay("need", 4);
        wrongWay("need ", 5);
        wrongWay("needdark", 0);
        wrongWay("need notdark", 5);
        wrongWay("need light", 5);
        wrongWay("need darkz", 5);
        wrongWay("need zdark", 5);
        wrongWay("need dark dark", 10);
        wrongWay("need dark < 1", 10);
        wrongWay("need and dark", 5);
        wrongWay("need dark and", 13);
        wrongWay("need dark and or dark", 14);
        wrongWay("need dark or;free 0", 12);
        wrongWay("need not", 8);
        wrongWay("need not;", 8);
        wrongWay("need ()", 6);
        wrongWay("need (dark", 10);
        wrongWay("need (dark;", 10);
        wrongWay("need dark)", 9);
        wrongWay("need (1) < 2", 7);
        wrongWay("need 1", 6);
        wrongWay("need 1 2", 7);
        wrongWay("need 1 <", 8);
        wrongWay("need 1 < dark", 9);
        wrongWay("need 1 < 2 < 3", 11);
        wrongWay("need 1 + < 3", 9);
        wrongWay("need 1 + + 2 < 3", 9);
        wrongWay("need 1000 < 3", 5);
        wrongWay("need knows < 3", 11);
        wrongWay("need knows 4 < 3", 11);
        wrongWay("need slack", 10);
        wrongWay("need loose", 10);
        wrongWay("need loose 7", 11);
        wrongWay("need loose 4", 11);
        wrongWay("need held 4", 10);
        wrongWay("need slack 4 < 1", 11);
        wrongWay("need second", 11);
        wrongWay("need second and dark", 12);
        wrongWay("need second = 1", 12);
        wrongWay("need (((((((dark)))))))", 11);
        wrongWay("need not(not(not(not 1<2", 17);
        wrongWay("need not(not(not 1<2", 20);
        wrongWay("need not not not ( ( ( not dark ) ) )", 23);
        wrongWay("need not (((((dark or (dark", 22);
        wrongWay(times("free 0", 10, ";") + ";free 0", 70);
    }

    private static void promise7() {
        DarkSitting x = new DarkSitting();
        is("7: ahead of any", -1, x.fault());
        write(x, "hold 0 by 1;last");
        throwing("7: wrong", ARGUMENT, x::rule);
        is("7: fault", 16, x.fault());
        is("7: still", 16, x.fault());
        x.image();
        x.back();
        is("7: still", 16, x.fault());
        way(x, "free 0");
        is("7: without one", -1, x.fault());
        write(x, "fre 0");
        throwing("7: wrong way", ARGUMENT, x::way);
        is("7: fault of a way", 0, x.fault());
        is("7: right one", 0, rule(x, ""));
        is("7: without one", -1, x.fault());
    }

    private static void promise8() {
        DarkSitting x = new DarkSitting();
        int[][] none = {{-1, 0, 0}, {3, 0, 0}, {0, -1, 0}, {0, 3, 0}, {0, 0, -1}, {0, 0, 10}};
        for (int[] n : none) {
            throwing("8: thing", ARGUMENT, () -> x.thing(n[0], n[1], n[2]));
        }
        for (int k = 0; k < 6; k++) {
            is("8: number", k, x.thing(k % 3, 2 - k % 3, k + 4));
        }
        throwing("8: argument first", ARGUMENT, () -> x.thing(0, 0, 10));
        throwing("8: full", FULL, () -> x.thing(0, 0, 0));
        is("8: six", 6, x.count(3));
    }

    private static void promise9() {
        DarkSitting x = new DarkSitting();
        throwing("9: none", INDEX, () -> x.look(0, 9));
        rule(x, "hold 1 by 2;hold 3 by 7;tie 3 0;lit 2 to 5;lit 4 to 6;lit 9 to 300;last 20;last 10;hold 1 by 1");
        is("9: last", 10, x.look(0, 0));
        is("9: lit 2 to 6 and 9", 5, x.look(0, 1));
        is("9: lines", 9, x.look(0, 2));
        is("9: held", 10, x.look(0, 3));
        is("9: tied", 8, x.look(0, 4));
        throwing("9: what", NO_ELEMENT, () -> x.look(0, 5));
        throwing("9: what", NO_ELEMENT, () -> x.look(0, -1));
        throwing("9: index first", INDEX, () -> x.look(1, 5));
        throwing("9: below", INDEX, () -> x.look(-1, 0));
        rule(x, "lit 0 to 300");
        is("9: last without", 120, x.look(1, 0));
        is("9: all lit", 120, x.look(1, 1));
        is("9: none held", 0, x.look(1, 3));
        is("9: none tied", 0, x.look(1, 4));
        is("9: still held", 10, x.look(0, 3));
    }

    private static void promise10() {
        String rule = "hold 0 by 1;hold 1 by 2;hold 2 by 6;tie 2 7;tie 3 0;lit 5 to 8;lit 290 to 300";
        need(true, rule, "dark", 4, 0, false);
        need(false, rule, "dark", 5, 0, false);
        need(false, rule, "dark", 7, 0, false);
        need(true, rule, "dark", 8, 0, false);
        need(false, rule, "dark", 299, 0, false);
        need(true, rule, "dark", 300, 0, false);
        need(true, rule, "helped", 0, 0, true);
        need(false, rule, "helped", 0, 0, false);
        for (int limb = 0; limb < 4; limb++) {
            for (int limbs = 0; limbs < 16; limbs++) {
                need((limbs >> limb & 1) == 1, rule, "loose " + limb, 3, limbs, false);
                need(Integer.bitCount(limbs) > limb, rule, "limbs > " + limb, 3, limbs, false);
                need(2 * Integer.bitCount(limbs) < limb + 1, rule, "limbs + limbs < " + (limb + 1), 3, limbs, false);
                need(3 < Integer.bitCount(limbs) + limb, rule, "3 < limbs + " + limb, 3, limbs, false);
            }
            need(limb < 3, rule, "held " + limb, 0, 0, false);
            need(limb > 1, rule, "tied " + limb, 0, 0, false);
        }
        need(false, rule, "tired 0", 19, 0, false);
        need(true, rule, "tired 0", 20, 0, false);
        need(true, rule, "tired 1", 0, 0, false);
        need(true, rule, "tired 2", 0, 0, false);
        need(false, rule, "tired 3", 300, 0, false);
        need(true, rule, "knows 0 > 4 and knows 0 < 6", 0, 0, false);
        need(true, rule, "knows 1 > 8", 0, 0, false);
        need(true, rule, "knows 2 + knows 3 < 1", 0, 0, false);
        need(true, rule, "slack 0 > 98 and slack 2 < 8 and slack 2 > 6 and slack 3 < 1", 0, 0, false);
        need(true, rule, "slack 0 < 100 and slack 1 + 1 > 99", 0, 0, false);
        need(false, rule, "5 < 5 or 5 > 5", 0, 0, false);
        need(true, rule, "limbs > 1 and 2 > 1 and not 1 > 2", 0, 7, false);
        need(false, rule, "limbs > 3 or 1 > 2 or 2 < 1", 0, 7, false);
        need(false, rule, "(limbs < 1 or limbs > 2) and not (limbs + 1 < 2 or limbs > 3)", 0, 0, false);
        need(true, rule, "(limbs < 1 or limbs > 2) and not (limbs + 1 < 2 or limbs > 3)", 0, 7, false);
        need(true, rule, "second + second > 9", 5, 0, false);
        need(false, rule, "second + second > 10", 5, 0, false);
        need(true, rule, "dark or dark and 1 > 2", 0, 0, false);
        need(false, rule, "(dark or dark) and 1 > 2", 0, 0, false);
        need(true, rule, "1 > 2 and 1 > 2 or dark", 0, 0, false);
        need(false, rule, "not dark or 1 > 2", 0, 0, false);
        need(true, rule, "not (dark and 1 > 2)", 0, 0, false);
        need(true, rule, "not 1 > 2 and dark", 0, 0, false);
        need(true, rule, "1 > 2 or 1 > 2 or 1 < 2 and dark", 0, 0, false);
        need(false, rule, "dark;need helped", 0, 0, false);
        need(false, rule, "helped;need dark", 0, 0, false);
        need(true, rule, "helped;need dark", 0, 0, true);
        need(true, "hold 0 by 1;hold 0 by 2;tie 0 3;tie 0 4", "knows 0 > 8 and slack 0 > 3", 0, 0, false);
        need(true, "hold 0 by 1;tie 0 3", "held 0 and tied 0 and knows 0 > 4 and slack 0 < 4", 0, 0, false);

        DarkSitting x = new DarkSitting();
        x.person(0, 0);
        way(x, "need knows 0 > 3;free 0");
        throwing("10: no rule", INDEX, () -> x.needs(0, 0, 0, 0, false));
        rule(x, "hold 0 by 1");
        is("10: not there", false, x.needs(0, 0, 0, 0, false));
        x.person(4, 0);
        is("10: there by now", true, x.needs(0, 0, 0, 0, false));
        throwing("10: no way", INDEX, () -> x.needs(1, 0, 0, 0, false));
        throwing("10: index first", INDEX, () -> x.needs(0, -1, 301, 16, false));
        throwing("10: second", ARGUMENT, () -> x.needs(0, 0, 301, 0, false));
        throwing("10: second", ARGUMENT, () -> x.needs(0, 0, -1, 0, false));
        throwing("10: bits", ARGUMENT, () -> x.needs(0, 0, 0, 16, false));
        throwing("10: bits", ARGUMENT, () -> x.needs(0, 0, 0, -1, false));
        is("10: edges", true, x.needs(0, 0, 300, 15, false));
        way(x, "");
        is("10: no need", true, x.needs(1, 0, 0, 0, false));
    }

    private static void promise11And12() {
        DarkSitting x = new DarkSitting();
        throwing("11: none", INDEX, () -> x.note(0, 301));
        x.thing(0, 0, 0);
        throwing("11: below", INDEX, () -> x.note(-1, 0));
        throwing("11: second", ARGUMENT, () -> x.note(0, -1));
        throwing("11: second", ARGUMENT, () -> x.note(0, 301));
        for (int k = 0; k < 10; k++) {
            is("11: number", k, x.note(0, k * 33));
        }
        throwing("11: argument first", ARGUMENT, () -> x.note(0, 301));
        throwing("11: full", FULL, () -> x.note(0, 0));
        is("12: torn", 10, x.torn());
        is("12: none left", 0, x.count(4));
        is("12: torn again", 0, x.torn());
        is("11: from 0 on", 0, x.note(0, 300));
    }

    /** A rule of ten seconds and a way that takes three, with what is asked for most. */
    private static DarkSitting table(String rule, String... ways) {
        DarkSitting x = new DarkSitting();
        x.person(0, 0);
        x.person(5, 4);
        rule(x, rule);
        for (String text : ways) {
            way(x, text);
        }
        x.thing(1, 0, 0);
        x.thing(0, 1, 0);
        x.thing(2, 0, 0);
        x.thing(2, 2, 0);
        x.thing(0, 0, 5);
        x.thing(0, 0, 0);
        return x;
    }

    private static void promise13() {
        DarkSitting x = table("last 10;lit 5 to 6", "free 0;take 3", "free 1;take 2;need loose 0", "reach 5");
        throwing("13: no rule", INDEX, () -> x.can(1, 0, false));
        throwing("13: no rule", INDEX, () -> x.can(-1, 0, false));
        is("13: no notes", true, x.can(0, 0, false));
        x.note(0, 3);
        is("13: at once", true, x.can(0, 1, false));
        is("13: without ways", false, x.can(0, 0, false));
        is("13: bits of none", true, x.can(0, -1, false));
        is("13: bits of none alone", false, x.can(0, 1 << 10 | 8, false));
        x.note(0, 4);
        is("13: till it is lit", true, x.can(0, 1, false));
        x.note(0, 5);
        is("13: lit", false, x.can(0, 1, false));
        x.torn();
        x.note(0, 4);
        x.note(0, 7);
        is("13: not again so soon", false, x.can(0, 1, false));
        x.torn();
        x.note(0, 4);
        x.note(0, 8);
        is("13: a way may go while it is lit", true, x.can(0, 1, false));
        x.note(0, 9);
        is("13: to one ahead of the end", true, x.can(0, 1, false));
        x.note(0, 10);
        is("13: not at the end", false, x.can(0, 1, false));
        x.torn();
        x.note(5, 10);
        is("13: nothing needed at the end", true, x.can(0, 0, false));
        x.note(5, 11);
        is("13: behind the end", false, x.can(0, 7, false));
        x.torn();
        x.note(4, 0);
        is("13: reach by a way that is used", true, x.can(0, 4, false));
        is("13: no reach", false, x.can(0, 3, false));
        x.torn();
        x.note(2, 4);
        is("13: both hands too early", false, x.can(0, 7, false));

        DarkSitting y = table("last 12;hold 0 by 1;hold 1 by 1", "free 0;take 2;need helped", "free 1;take 2;need loose 0",
                "free 2;take 1;need tired 0 and not loose 0");
        y.note(2, 4);
        is("13: helped", true, y.can(0, 3, true));
        is("13: not helped", false, y.can(0, 3, false));
        y.note(1, 6);
        is("13: a hand is held again on the way", true, y.can(0, 7, true));
        y.note(2, 5);
        is("13: too much for it", false, y.can(0, 7, true));
    }

    private static void promise14() {
        DarkSitting x = table("last 10", "free 0;take 4", "free 1;take 2", "free 0;take 2;need helped", "free 0;free 1;take 3");
        throwing("14: no rule", INDEX, () -> x.fewest(1, false));
        is("14: none needed", 0, x.fewest(0, false));
        x.note(0, 4);
        is("14: least bits", 1, x.fewest(0, false));
        x.note(0, 2);
        is("14: the quick one", 2, x.fewest(0, false));
        x.torn();
        x.note(2, 5);
        is("14: one is fewer than two", 8, x.fewest(0, false));
        x.note(0, 2);
        is("14: two", 10, x.fewest(0, false));
        x.torn();
        x.note(2, 4);
        x.note(0, 2);
        is("14: helped", 6, x.fewest(0, true));
        is("14: not helped", -1, x.fewest(0, false));
        x.torn();
        x.note(4, 4);
        is("14: none reaches", -1, x.fewest(0, true));
        way(x, "reach 5");
        is("14: the one that reaches", 16, x.fewest(0, true));
        x.note(0, 6);
        is("14: a hand, and reach", 17, x.fewest(0, false));
        DarkSitting y = new DarkSitting();
        rule(y, "last 5");
        is("14: no ways, no notes", 0, y.fewest(0, false));
        y.thing(0, 0, 0);
        y.note(0, 6);
        is("14: no ways, behind the end", -1, y.fewest(0, false));
    }

    private static void promise15() {
        DarkSitting x = table("last 10;lit 4 to 5", "free 0;take 3", "free 1;take 2;need loose 0",
                "free 2;need limbs > 1 and second < 9", "reach 5", "free 3;take 1;need helped;need dark");
        throwing("15: no rule", INDEX, () -> x.earliest(1, 0, false, 0));
        throwing("15: no thing", INDEX, () -> x.earliest(0, 0, false, 6));
        throwing("15: no thing", INDEX, () -> x.earliest(0, 0, false, -1));
        is("15: a hand", 3, x.earliest(0, 1, false, 0));
        is("15: no way", -1, x.earliest(0, 0, false, 0));
        is("15: lit between", -1, x.earliest(0, 6, false, 2));
        // The first way goes from 2 to 4, while it is lit too: the hand is free at 5, the other one 2 later.
        is("15: both hands", 7, x.earliest(0, 3, false, 2));
        is("15: and feet: never", -1, x.earliest(0, -1, false, 3));
        is("15: nothing needed", 0, x.earliest(0, 0, false, 5));
        is("15: reach", 0, x.earliest(0, 8, false, 4));
        is("15: no reach", -1, x.earliest(0, 7, false, 4));
        is("15: helped", 1, x.earliest(0, 16, true, 1));
        is("15: not helped", -1, x.earliest(0, 16, false, 1));
        x.note(5, 300);
        is("15: whatever notes", 3, x.earliest(0, 1, false, 0));

        DarkSitting y = table("last 4", "free 0;take 3", "free 1;take 4", "free 2;free 3;take 2");
        is("15: one ahead of the end", 3, y.earliest(0, 1, false, 0));
        is("15: not at the end", -1, y.earliest(0, 2, false, 0));
        is("15: two at once", 2, y.earliest(0, 4, false, 1));
        DarkSitting v = table("last 3", "free 0;reach 1", "free 2");
        is("15: a way takes a second without take", 1, v.earliest(0, 1, false, 0));
        is("15: one behind the other", 2, v.earliest(0, 3, false, 0) + v.earliest(0, 2, false, 1));
        DarkSitting u = new DarkSitting();
        rule(u, "");
        way(u, "reach 1;free 0");
        way(u, "");
        u.thing(0, 0, 1);
        is("15: reach of the first way", 0, u.earliest(0, 1, false, 0));
        is("15: a way without reach", -1, u.earliest(0, 2, false, 0));
        is("15: no ways, no reach", -1, u.earliest(0, 0, false, 0));
        DarkSitting z = table("last 20;lit 3 to 5", "free 0;take 3;need dark");
        is("15: needs at each second", 8, z.earliest(0, 1, false, 0));
        DarkSitting w = table("last 20;hold 0 by 1", "free 0;take 3;need tired 0", "free 1;take 2;need not loose 0");
        is("15: tired from 4 on", 7, w.earliest(0, 1, false, 0));
        is("15: both", 7, w.earliest(0, 3, false, 2));
    }

    private static void promise16() {
        DarkSitting x = table("last 10;lit 5 to 7", "free 0;take 2", "free 3;take 3;need loose 0");
        throwing("16: no rule", INDEX, () -> x.may(1, 0, false, 301));
        throwing("16: second", ARGUMENT, () -> x.may(0, 0, false, 301));
        throwing("16: second", ARGUMENT, () -> x.may(0, 0, false, -1));
        int[] due = {0, 0, 1, 1, 1, 0, 0, 1, 1, 1, 0, 0};
        for (int second = 0; second < due.length; second++) {
            is("16: at " + second, due[second], x.may(0, -1, false, second));
        }
        is("16: the first way may go while it is lit", 1, x.may(0, 1, false, 7));
        is("16: no ways", 0, x.may(0, 2, false, 8));
        is("16: far behind the end", 0, x.may(0, -1, false, 300));
        DarkSitting y = table("last 10", "free 0;take 2;need limbs < 1", "free 1;take 2;need limbs < 1");
        is("16: each for itself", 3, y.may(0, 3, false, 2));
        is("16: never both", -1, y.earliest(0, 3, false, 2));
    }

    private static void promise17And18() {
        DarkSitting x = table("last 10", "free 0;take 3;need knows 0 < 5", "free 1;need helped", "free 2;need slack 2 > 98");
        throwing("17: no thing", INDEX, () -> x.shut(6));
        throwing("17: no thing", INDEX, () -> x.shut(-1));
        throwing("18: no rule", INDEX, () -> x.opens(1, 0));
        throwing("18: no thing", INDEX, () -> x.opens(0, 6));
        rule(x, "hold 0 by 1;tie 2 98");
        rule(x, "hold 0 by 1;hold 0 by 1;last 3;lit 0 to 1");
        rule(x, "lit 0 to 3;last 3;hold 1 by 1;tie 2 4;tie 2 99");
        is("17: a hand", 2 + 4 + 8, x.shut(0));
        is("17: a foot", 2 + 8, x.shut(1));
        is("17: both hands, not helped", 15, x.shut(2));
        is("17: reach", 15, x.shut(4));
        is("17: nothing needed", 0, x.shut(5));
        is("18: the holder", 1, x.opens(1, 0));
        is("18: the tie", 2, x.opens(1, 1));
        is("18: not shut", -1, x.opens(0, 0));
        is("18: none alone", 0, x.opens(2, 0));
        is("18: not shut", -1, x.opens(2, 1));
        is("18: it has to last", 2, x.opens(3, 0));
        is("18: light or last", 3, x.opens(3, 1));
        is("18: no lines do", 0, x.opens(0, 2));
        x.note(0, 300);
        is("17: whatever notes", 14, x.shut(0));
        DarkSitting y = table("hold 0 by 2", "free 0;need knows 0 > 3");
        is("17: nobody holds it", 1, y.shut(0));
        y.person(9, 0);
        is("17: one who knows holds it", 0, y.shut(0));
    }

    private static void promise19() {
        DarkSitting x = new DarkSitting();
        throwing("19: no way", INDEX, () -> x.trap(0, 0, 0));
        way(x, "free 0");
        throwing("19: below", INDEX, () -> x.trap(-1, 1, 1));
        int[][] none = {{0, 1}, {10, 1}, {1, 0}, {1, 10}};
        for (int[] n : none) {
            throwing("19: numbers", ARGUMENT, () -> x.trap(0, n[0], n[1]));
        }
        for (int k = 0; k < 4; k++) {
            is("19: number", k, x.trap(0, 1, 9));
        }
        throwing("19: argument first", ARGUMENT, () -> x.trap(0, 0, 1));
        throwing("19: full", FULL, () -> x.trap(0, 9, 1));
        is("19: four", 4, x.count(5));
    }

    private static void promise20() {
        DarkSitting x = new DarkSitting();
        int[][] none = {{0, -1}, {100, -1}, {1, 0}, {1, 8}, {1, -2}};
        for (int[] n : none) {
            throwing("20: numbers", ARGUMENT, () -> x.story(n[0], 0, n[1]));
        }
        is("20: least", 0, x.story(1, 0, -1));
        is("20: any bits", 1, x.story(99, -1, 7));
        is("20: any bits", 2, x.story(50, MIN, 1));
        x.story(1, MAX, 3);
        x.story(1, 64, 3);
        throwing("20: argument first", ARGUMENT, () -> x.story(0, 0, -1));
        throwing("20: full", FULL, () -> x.story(1, 0, -1));
        is("20: five", 5, x.count(6));
    }

    private static void promise21() {
        DarkSitting x = new DarkSitting();
        throwing("21: no rule", INDEX, () -> x.night(0, -1, -1, -1, -1));
        rule(x, "last 5");
        throwing("21: below", INDEX, () -> x.night(-1, 0, 0, 0, 0));
        throwing("21: persons", ARGUMENT, () -> x.night(0, 256, 0, 0, 0));
        throwing("21: persons", ARGUMENT, () -> x.night(0, -1, 0, 0, 0));
        throwing("21: things", ARGUMENT, () -> x.night(0, 0, 1, 0, 0));
        throwing("21: traps", ARGUMENT, () -> x.night(0, 0, 0, 1, 0));
        is("21: nobody need be told of", 0, x.night(0, 255, 0, 0, 0));
        x.thing(0, 0, 0);
        way(x, "");
        x.trap(0, 5, 5);
        x.trap(0, 5, 5);
        throwing("21: sprang but not set", ARGUMENT, () -> x.night(0, 0, 1, 1, 2));
        throwing("21: bits of none", ARGUMENT, () -> x.night(0, 0, 2, 0, 0));
        throwing("21: bits of none", ARGUMENT, () -> x.night(0, 0, MIN, 0, 0));
        for (int k = 1; k < 12; k++) {
            is("21: number", k, x.night(0, k, 1, 3, k % 4));
        }
        throwing("21: argument first", ARGUMENT, () -> x.night(0, 0, 2, 0, 0));
        throwing("21: full", FULL, () -> x.night(0, 0, 0, 0, 0));
        is("21: twelve", 12, x.count(7));
    }

    private static void promise22To24() {
        DarkSitting x = table("last 10;hold 1 by 1", "free 0;take 3", "free 1;need helped", "reach 5");
        throwing("22: no story", INDEX, () -> x.odds(0));
        throwing("23: no story", INDEX, () -> x.oddsBy(0, 9));
        throwing("24: no story", INDEX, () -> x.factor(0, 0));
        x.trap(0, 8, 2);
        x.trap(1, 6, 1);
        x.story(3, 1, -1);
        is("22: one alone", 10000, x.odds(0));
        x.story(3, 2, 4);
        x.story(1, 0, -1);
        is("22: 30000 by 7 and the rest", 4287, x.odds(0));
        is("22: 30000 by 7", 4285, x.odds(1));
        is("22: 10000 by 7", 1428, x.odds(2));
        throwing("24: no night", INDEX, () -> x.factor(0, 0));
        throwing("23: nights", ARGUMENT, () -> x.oddsBy(0, 1));
        throwing("23: nights", ARGUMENT, () -> x.oddsBy(0, -1));
        is("23: none", 4287, x.oddsBy(0, 0));
        // Things: 0 a hand, 1 a foot, 2 both hands, 3 all, 4 reach 5, 5 nothing needed.
        x.night(0, 0, 0b100001, 3, 1);
        is("24: a hand, nothing needed; both set, one sprang", 7 * 9 * 9 * 9 * 9 * 7 * 8 * 9L, x.factor(0, 0));
        is("24: its helper is not there", 9 * 9 * 9 * 9 * 7 * 2 * 4L, x.factor(1, 0));
        is("24: no ways", 9 * 9 * 9 * 9 * 7 * 2 * 9L, x.factor(2, 0));
        // Shares 4287 * 7 * 8 * 9 = 2160648, 4285 * 2 * 4 = 34280, 1428 * 2 * 9 = 25704: 2220632 in all.
        is("22: the greatest has the rest", 10000 - 154 - 115, x.odds(0));
        is("22: second", 154, x.odds(1));
        is("22: third", 115, x.odds(2));
        x.night(0, 16, 0b100000, 0, 0);
        is("24: a hand did not come", 3 * 9 * 9 * 9 * 9 * 7L, x.factor(0, 1));
        is("24: its helper is there", 3 * 9 * 9 * 9 * 9 * 7L, x.factor(1, 1));
        is("24: no ways", 9 * 9 * 9 * 9 * 9 * 7L, x.factor(2, 1));
        // Shares 9731, 154, 345 (times what all have): 10230 in all.
        is("22: by both", 10000 - 150 - 337, x.odds(0));
        is("22: by both", 150, x.odds(1));
        is("22: by both", 337, x.odds(2));
        is("23: by the first", 9731, x.oddsBy(0, 1));
        is("23: by both", 9513, x.oddsBy(0, 2));
        is("23: by none", 1428, x.oddsBy(2, 0));
        throwing("22: none", INDEX, () -> x.odds(3));
        throwing("22: none", INDEX, () -> x.odds(-1));
        throwing("24: no night", INDEX, () -> x.factor(0, 2));
        throwing("24: no night", INDEX, () -> x.factor(0, -1));
        throwing("24: no story", INDEX, () -> x.factor(3, 0));
        throwing("24: no story", INDEX, () -> x.factor(-1, 0));
        throwing("23: index first", INDEX, () -> x.oddsBy(3, 9));
        x.story(2, 0b11000, 4);
        is("24: its way is not there yet", 9 * 9 * 9 * 9 * 9 * 7L, x.factor(3, 1));
        way(x, "free 2");
        is("24: its way is there", 9 * 3 * 9 * 9 * 9 * 7L, x.factor(3, 1));
        way(x, "reach 6");
        is("24: it reaches", 9 * 3 * 9 * 9 * 3 * 7L, x.factor(3, 1));
        DarkSitting y = table("last 10", "free 0");
        y.story(5, 0, -1);
        y.story(7, 0, -1);
        y.story(7, 0, -1);
        is("22: the first of the greatest", 3685, y.odds(1));
        is("22: the second of them", 3684, y.odds(2));
        is("22: rounded down", 2631, y.odds(0));
        DarkSitting z = table("hold 0 by 2", "free 0;need knows 0 > 3");
        z.story(1, 1, -1);
        z.night(0, 0, 0, 0, 0);
        is("24: nobody holds it", 9 * 9 * 9 * 9 * 9 * 3L, z.factor(0, 0));
        z.person(4, 0);
        is("24: a person who came later", 3 * 9 * 9 * 9 * 9 * 3L, z.factor(0, 0));
    }

    private static void promise25() {
        DarkSitting x = table("last 10", "free 0", "free 1");
        throwing("25: none", INDEX, () -> x.says(0));
        x.trap(0, 9, 1);
        x.trap(1, 3, 3);
        is("25: no stories", 0, x.says(0));
        x.story(1, 1, -1);
        is("25: one story", 0, x.says(0));
        x.story(2, 2, -1);
        // Odds 3333 and 6667, M = 3333 * 9 + 6667 = 36664: 3333 * 53336 + 6667 * 26664 = 355537776.
        is("25: two", 35553, x.says(0));
        is("25: it springs likewise", 0, x.says(1));
        x.night(0, 0, 0, 1, 1);
        // Both can do a hand alone; 29997 to 6667: 8182 and 1818, M = 75456.
        is("25: by all nights", (8182L * 14544 + 1818L * 65456) / 10000, x.says(0));
        throwing("25: none", INDEX, () -> x.says(2));
        throwing("25: none", INDEX, () -> x.says(-1));
    }

    private static void promise26() {
        DarkSitting x = table("last 10", "free 0");
        is("26: no nights", 1, x.with(7, 3));
        int[][] nights = {{2, 1}, {2, 2}, {3, 0}, {0, 1}, {6, 0}, {2, 3}, {0, 0}};
        for (int[] n : nights) {
            x.night(0, n[0], n[1], 0, 0);
        }
        is("26: both", 3, x.with(1, 0));
        is("26: there", 5, x.with(1, 1));
        is("26: came", 4, x.with(1, 2));
        // Of 7 nights 5: at least 3 of the 4: C(4,3) C(3,2) + C(4,4) C(3,1) = 12 + 3.
        is("26: ways to choose", 15, x.with(1, 3));
        is("26: never with a thing", 0, x.with(2, 0));
        is("26: there once", 1, x.with(2, 1));
        is("26: any of 7", 7, x.with(2, 3));
        is("26: never there", 1, x.with(7, 3));
        is("26: came", 4, x.with(7, 2));
        throwing("26: none", INDEX, () -> x.with(8, 4));
        throwing("26: none", INDEX, () -> x.with(-1, 0));
        throwing("26: what", NO_ELEMENT, () -> x.with(0, 4));
        throwing("26: what", NO_ELEMENT, () -> x.with(0, -1));
        DarkSitting y = table("last 10", "free 0");
        for (int k = 0; k < 12; k++) {
            y.night(0, k < 6 ? 2 : 0, 0, 0, 0);
        }
        is("26: 6 of 12", 924, y.with(1, 3));
    }

    private static void promise27To30() {
        DarkSitting x = new DarkSitting();
        for (int bits : new int[] {1, 256, -1, MIN, 3}) {
            throwing("27: bits " + bits, ARGUMENT, () -> x.knew(bits));
        }
        x.knew(0b10000110);
        is("29: who knew", 0b10000110, x.knows(0));
        throwing("28: from", INDEX, () -> x.told(8, 8, 400));
        throwing("28: from", INDEX, () -> x.told(-1, 0, 0));
        throwing("28: to", INDEX, () -> x.told(0, 8, 0));
        throwing("28: to", INDEX, () -> x.told(0, -1, -1));
        throwing("28: one", ARGUMENT, () -> x.told(3, 3, 0));
        throwing("28: day", ARGUMENT, () -> x.told(3, 4, 366));
        throwing("28: day", ARGUMENT, () -> x.told(3, 4, -1));
        is("28: number", 0, x.told(3, 4, 10));
        is("28: number", 1, x.told(2, 3, 10));
        is("28: too early", 2, x.told(4, 5, 9));
        is("28: number", 3, x.told(4, 0, 12));
        is("28: number", 4, x.told(1, 0, 20));
        is("28: number", 5, x.told(0, 6, 365));
        is("29: before", 0b10000110, x.knows(9));
        is("29: on one day in any order", 0b10011110, x.knows(10));
        is("29: the one", 0b10011111, x.knows(12));
        is("29: the last day", 0b11011111, x.knows(365));
        is("30: whence", 0, x.whence(11, false));
        is("30: must, but it would not anyway", 0, x.whence(11, true));
        is("30: whence", 4, x.whence(12, false));
        is("30: must", 0b11100, x.whence(12, true));
        is("30: whence by two", 6, x.whence(20, false));
        is("30: none must", 0, x.whence(20, true));
        x.knew(2);
        is("27: in place of those", 2, x.knows(10));
        is("30: must", 2, x.whence(20, true));
        x.knew(0);
        is("27: nobody", 0, x.knows(365));
        for (int day : new int[] {-1, 366, MAX}) {
            throwing("29: day", ARGUMENT, () -> x.knows(day));
            throwing("30: day", ARGUMENT, () -> x.whence(day, true));
            throwing("30: day", ARGUMENT, () -> x.whence(day, false));
        }
        for (int k = 6; k < 20; k++) {
            is("28: number", k, x.told(k % 7, 7, k));
        }
        throwing("28: argument first", ARGUMENT, () -> x.told(1, 1, 0));
        throwing("28: full", FULL, () -> x.told(1, 2, 0));
        is("28: twenty", 20, x.count(8));

        DarkSitting y = new DarkSitting();
        y.knew(128);
        for (int p = 0; p < 7; p++) {
            y.told(p + 1, p, 100);
        }
        is("29: through all on one day", 255, y.knows(100));
        is("30: all must", 254, y.whence(100, true));
        is("29: the day before", 128, y.knows(99));
        DarkSitting z = new DarkSitting();
        z.knew(8);
        z.told(3, 0, 5);
        z.told(0, 3, 5);
        is("30: told back", 8, z.whence(5, true));
        z.told(3, 0, 0);
        is("30: on the first day", 8, z.whence(0, false));
        is("30: on the first day", 8, z.whence(0, true));
        is("29: on the first day", 9, z.knows(0));
    }

    private static void promise31And32() {
        DarkSitting x = new DarkSitting();
        int[][] none = {{0, 1, 0, 0}, {100, 1, 0, 0}, {1, 0, 0, 0}, {1, 100, 0, 0}, {1, 1, -1, 0}, {1, 1, 51, 0},
            {1, 1, 0, -1}, {1, 1, 0, 51}};
        for (int[] n : none) {
            throwing("31: numbers", ARGUMENT, () -> x.knot(n[0], n[1], n[2], n[3]));
        }
        for (int k = 0; k < 6; k++) {
            is("31: number", k, x.knot(99, 99, 50, 50));
        }
        throwing("31: argument first", ARGUMENT, () -> x.knot(0, 1, 0, 0));
        throwing("31: full", FULL, () -> x.knot(1, 1, 0, 0));
        is("31: six", 6, x.count(9));
        throwing("32: below", ARGUMENT, () -> x.rope(-1));
        throwing("32: above", ARGUMENT, () -> x.rope(51));
        is("32: no slack", -1, x.out(63, true));
        x.rope(49);
        is("32: nearly", -1, x.out(1, false));
        x.rope(50);
        is("32: enough", 99, x.out(1, false));
        is("33: all", 594, x.out(63, false));
        is("33: all and in", 1188, x.out(63, true));
        x.rope(0);
        is("32: in place of it", -1, x.out(1, false));
    }

    private static void promise33And34() {
        DarkSitting x = new DarkSitting();
        is("33: no knots", 0, x.out(-1, false));
        is("33: no knots", 0, x.out(-1, true));
        is("34: no knots", -1, x.first(-1));
        x.knot(10, 1, 0, 2);
        x.knot(10, 30, 0, 2);
        x.knot(7, 8, 2, 1);
        x.knot(5, 6, 50, 0);
        is("33: by one of two", 17, x.out(4, false));
        is("34: the least", 0, x.first(4));
        is("33: in again, by the cheaper one", 17 + 8 + 1, x.out(4, true));
        is("33: nothing", 0, x.out(0, true));
        is("34: nothing", -1, x.first(0));
        is("34: bits of none", -1, x.first(1 << 6));
        is("33: bits of none", 17, x.out(4 | 1 << 20, false));
        is("33: never", -1, x.out(8, false));
        is("33: never", -1, x.out(12, true));
        is("34: never", -1, x.first(8));
        is("33: a knot's own slack does not count", 10, x.out(1, false));
        DarkSitting y = new DarkSitting();
        y.knot(10, 50, 0, 5);
        y.knot(11, 1, 0, 5);
        y.knot(3, 3, 5, 0);
        is("33: out by the quick one", 13, y.out(4, false));
        is("34: the quick one", 0, y.first(4));
        is("33: out and in by the other one", 11 + 3 + 3 + 1, y.out(4, true));
        DarkSitting w = new DarkSitting();
        w.rope(1);
        w.knot(9, 1, 3, 2);
        w.knot(8, 2, 1, 3);
        w.knot(7, 3, 6, 0);
        is("34: without out before it", 1, w.first(4));
        is("33: all slack together", 24, w.out(4, false));
        is("33: in again", 30, w.out(4, true));
        is("33: in again, once more", 30, w.out(4, true));
        w.rope(0);
        is("33: one too little", -1, w.out(4, false));
        w.rope(4);
        is("33: by one", 15, w.out(4, false));
        is("34: by one", 0, w.first(4) - 1);
        DarkSitting z = new DarkSitting();
        z.knot(5, 5, 3, 9);
        z.knot(4, 2, 0, 3);
        is("33: its own does not count when it is tied", 9 + 5 + 2, z.out(1, true));
        is("34: another one first", 1, z.first(1));
        z.knot(50, 50, 0, 0);
        is("34: the least of all rows", 1, z.first(7));
    }

    private static void promise35() {
        DarkSitting x = new DarkSitting();
        int[][] none = {{-1, 0, 0}, {10000, 0, 0}, {0, -1, 0}, {0, 101, 0}, {0, 0, -1}, {0, 0, 21}};
        for (int[] n : none) {
            throwing("35: numbers", ARGUMENT, () -> x.tale(n[0], n[1], n[2]));
        }
        is("35: as it is", 9999, x.tale(9999, 100, 0));
        is("35: rounded up", 103, x.tale(100, 1, 2));
        is("35: doubled", 19998, x.tale(9999, 100, 1));
        is("35: one more each year", 21, x.tale(1, 1, 20));
        is("35: just below", 9999 << 16, x.tale(9999, 100, 16));
        is("35: it stops", 1000000000, x.tale(9999, 100, 17));
        is("35: it stops", 1000000000, x.tale(9999, 100, 20));
        is("35: nothing", 0, x.tale(0, 100, 20));
        is("35: not at all", 77, x.tale(77, 0, 20));
    }

    private static void promise36() {
        DarkSitting x = new DarkSitting();
        int[][] none = {{-1, 0, 0}, {256, 0, 0}, {0, -1, 0}, {0, 100, 0}, {0, 0, -1}, {0, 0, 8}};
        for (int[] n : none) {
            throwing("36: numbers", ARGUMENT, () -> x.cold(n[0], n[1], n[2]));
        }
        int[] due = {99, 97, 95, 93, 91, 93, 95, 97};
        for (int place = 0; place < 8; place++) {
            is("36: from door 0", due[place], x.cold(1, 99, place));
            is("36: from door 3", due[place], x.cold(8, 99, (place + 3) % 8));
            is("36: without", 0, x.cold(0, 99, place));
            is("36: all", 50, x.cold(255, 50, place));
        }
        is("36: the nearest", 8, x.cold(0b10001, 10, 3));
        is("36: not below 0", 0, x.cold(1, 3, 2));
        is("36: one", 1, x.cold(1, 3, 1));
        is("36: no degrees", 0, x.cold(1, 0, 0));
    }

    private static void promise37And38() {
        DarkSitting x = table("last 10;hold 0 by 2", "free 0;need knows 0 < 3", "free 1");
        is("38: none kept", false, x.back());
        x.trap(0, 8, 2);
        x.story(3, 1, -1);
        x.story(4, 2, 1);
        x.night(0, 3, 1, 1, 1);
        x.note(0, 5);
        x.knew(6);
        x.told(1, 0, 7);
        x.rope(9);
        x.knot(5, 5, 9, 1);
        x.image();
        int odds = x.odds(0);
        x.person(9, 9);
        rule(x, "last 7");
        way(x, "free 3");
        x.torn();
        x.trap(1, 2, 3);
        x.story(1, 0, -1);
        x.night(0, 0, 0, 0, 0);
        x.knew(4);
        x.told(2, 0, 3);
        x.rope(2);
        x.knot(1, 1, 1, 1);
        is("38: knows too much", false, x.needs(0, 0, 0, 0, false));
        write(x, "last 8");
        is("38: back", true, x.back());
        int[] due = {2, 1, 2, 6, 1, 1, 2, 1, 1, 1};
        for (int what = 0; what < 10; what++) {
            is("38: count " + what, due[what], x.count(what));
        }
        is("38: odds", odds, x.odds(0));
        is("38: needs", true, x.needs(0, 0, 0, 0, false));
        is("38: knew", 6, x.knows(0));
        is("38: told", 0, x.knows(3) & 1);
        is("38: rope", 5, x.out(1, false));
        is("38: notes", 1, x.fewest(0, false));
        is("38: the tape is not of it", 1, x.rule());
        is("38: the tape is not of it", 8, x.look(1, 0));
        is("38: back again", true, x.back());
        is("38: without it", 1, x.count(1));
        x.torn();
        x.image();
        x.note(0, 1);
        is("37: kept anew", true, x.back());
        is("37: kept anew", 0, x.count(4));
        DarkSitting w = table("last 10", "free 0;take 3");
        w.note(0, 5);
        w.note(5, 1);
        w.image();
        w.torn();
        w.note(1, 5);
        w.note(1, 5);
        is("38: before", false, w.can(0, 1, false));
        w.back();
        is("38: the notes that there were", true, w.can(0, 1, false));
        w.torn();
        is("38: none", 0, w.count(4));
        w.back();
        is("38: there again", false, w.can(0, 0, false));
        DarkSitting v = new DarkSitting();
        v.image();
        v.thing(0, 0, 0);
        v.back();
        is("38: no things", 0, v.count(3));
        // What was found out by a rule and its ways must not outlive a way back to before them.
        DarkSitting y = new DarkSitting();
        y.thing(1, 0, 0);
        y.image();
        rule(y, "last 10");
        way(y, "free 0");
        is("38: open", 0, y.shut(0));
        y.back();
        rule(y, "last 1");
        way(y, "free 0");
        is("38: another rule by that number", 1, y.shut(0));
        y.back();
        rule(y, "last 10");
        way(y, "free 2");
        is("38: another way by that number", 1, y.shut(0));
    }

    private static void promise39() {
        DarkSitting x = table("last 10", "free 0", "free 1");
        x.note(0, 1);
        x.trap(0, 1, 1);
        x.story(1, 1, 1);
        x.night(0, 0, 0, 0, 0);
        x.told(1, 2, 3);
        x.told(1, 2, 3);
        x.told(1, 2, 3);
        x.knot(1, 1, 1, 1);
        x.knot(1, 1, 1, 1);
        int[] due = {2, 1, 2, 6, 1, 1, 1, 1, 3, 2};
        for (int what = 0; what < 10; what++) {
            is("39: count " + what, due[what], x.count(what));
        }
        for (int what : new int[] {-1, 10, MIN, MAX}) {
            is("39: count " + what, -1, x.count(what));
        }
    }

    public static void main(String[] args) {
        promise1();
        promise2And3();
        promise4();
        promise5();
        promise6();
        promise7();
        promise8();
        promise9();
        promise10();
        promise11And12();
        promise13();
        promise14();
        promise15();
        promise16();
        promise17And18();
        promise19();
        promise20();
        promise21();
        promise22To24();
        promise25();
        promise26();
        promise27To30();
        promise31And32();
        promise33And34();
        promise35();
        promise36();
        promise37And38();
        promise39();
        System.out.println(checks + " answers asked for, " + wrong + " wrong");
        if (wrong != 0) {
            System.exit(1);
        }
    }
}
