import java.util.NoSuchElementException;
import java.util.function.Consumer;
import java.util.function.Supplier;

/** What the tests of boundary cases share: asking, refusing, texts on the TAPE, and tables with some or all rows. */
final class Trial {
    static final Class<?> ARGUMENT = IllegalArgumentException.class;
    static final Class<?> INDEX = IndexOutOfBoundsException.class;
    static final Class<?> FULL = UnsupportedOperationException.class;
    static final Class<?> NO_ELEMENT = NoSuchElementException.class;
    static final int NONE = -1;
    static final int MIN = Integer.MIN_VALUE;
    static final int MAX = Integer.MAX_VALUE;
    /** What some() and full() leave on the TAPE: wrong, so that it can be read without a row more. */
    static final String LEFT_ON_TAPE = "last 5 x";
    static final int LEFT_FAULT = 7;

    private static int wrong;
    private static int asked;

    private Trial() {
    }

    static void is(String what, Object due, Object got) {
        asked++;
        if (!plain(due).equals(plain(got))) {
            wrong++;
            System.out.println(what + " answered " + got + ", due is " + due);
        }
    }

    /** An int and a long of the same value are one answer. */
    private static String plain(Object answer) {
        return String.valueOf(answer);
    }

    /** Exactly this exception, not one of a class below it: those are the machine's own. */
    static void throwing(String what, Class<?> due, Runnable call) {
        Class<?> was = null;
        try {
            call.run();
        } catch (RuntimeException e) {
            was = e.getClass();
        }
        is(what, due, was);
    }

    /** The call throws, and afterwards the object answers all that one answers that was not asked. */
    static void refused(String what, Class<?> due, Supplier<DarkSitting> made, Consumer<DarkSitting> call) {
        DarkSitting x = made.get();
        throwing(what, due, () -> call.accept(x));
        is(what + " changes nothing", Portrait.of(made.get()), Portrait.of(x));
    }

    static void ends(String name) {
        System.out.println(name + ": " + asked + " answers asked for, " + wrong + " wrong");
        if (wrong != 0) {
            System.exit(1);
        }
    }

    static void write(DarkSitting x, String text) {
        for (int at = 0; at < text.length(); at += 20) {
            int[] n = new int[5];
            for (int k = 0; k < 20; k++) {
                n[k / 4] = n[k / 4] << 8 | (at + k < text.length() ? text.charAt(at + k) & 255 : 0);
            }
            x.feed(n[0], n[1], n[2], n[3], n[4]);
        }
        is("the tape takes " + text, true, x.end(text.length()));
    }

    static int rule(DarkSitting x, String text) {
        write(x, text);
        return x.rule();
    }

    static int way(DarkSitting x, String text) {
        write(x, text);
        return x.way();
    }

    static String times(String part, int many, String between) {
        StringBuilder b = new StringBuilder();
        for (int k = 0; k < many; k++) {
            b.append(k == 0 ? "" : between).append(part);
        }
        return b.toString();
    }

    static DarkSitting empty() {
        return new DarkSitting();
    }

    /** A RULE and WAYS, and these THINGS: 0 a hand, 1 a foot, 2 both hands, 3 all, 4 reach 5, 5 nothing needed. */
    static DarkSitting table(String rule, String... ways) {
        DarkSitting x = new DarkSitting();
        x.person(0, 0);
        x.person(5, 4);
        rule(x, rule);
        for (String text : ways) {
            way(x, text);
        }
        x.thing(1, 0, 0);
        x.thing(0, 1, 0);
        x.thing(2, 0, 0);
        x.thing(2, 2, 0);
        x.thing(0, 0, 5);
        x.thing(0, 0, 0);
        return x;
    }

    /** At least one row of each kind, and room for more; an IMAGE, a fault, and a TAPE. */
    static DarkSitting some() {
        DarkSitting x = new DarkSitting();
        x.person(1, 2);
        x.image();
        x.person(3, 4);
        rule(x, "hold 0 by 1;tie 2 5;lit 3 to 4;last 9");
        way(x, "free 0;take 2;reach 4;need knows 0 > 2");
        way(x, "free 1;need helped");
        x.thing(1, 0, 0);
        x.thing(2, 0, 4);
        x.note(0, 5);
        x.trap(0, 8, 3);
        x.story(2, 1, NONE);
        x.story(3, 2, 1);
        x.night(0, 3, 1, 1, 1);
        x.knew(6);
        x.told(1, 0, 10);
        x.rope(3);
        x.knot(5, 6, 3, 4);
        x.knot(7, 8, 4, 1);
        leaveTape(x);
        return x;
    }

    /** As many rows of each kind as there may be; an IMAGE, a fault, and a TAPE. */
    static DarkSitting full() {
        DarkSitting x = new DarkSitting();
        for (int k = 0; k < 8; k++) {
            x.person(k, 3 * k);
        }
        rule(x, "hold 0 by 1;last 12");
        x.image();
        rule(x, "tie 1 5;lit 4 to 6;last 9");
        rule(x, "hold 2 by 7;last 6");
        rule(x, "");
        for (int k = 0; k < 6; k++) {
            way(x, "free " + k % 4 + ";take " + (1 + k % 3) + ";reach " + (k + 1));
        }
        for (int k = 0; k < 6; k++) {
            x.thing(k % 3, k / 2, k);
        }
        for (int k = 0; k < 10; k++) {
            x.note(k % 2, k % 5 + 4);
        }
        for (int k = 0; k < 4; k++) {
            x.trap(k, 9 - k, 1 + k);
        }
        for (int k = 0; k < 5; k++) {
            x.story(k + 1, 1 << k, k == 0 ? NONE : k);
        }
        for (int k = 0; k < 12; k++) {
            x.night(k % 4, 20 * k + 1, k % 3, k % 4, 0);
        }
        x.knew(6);
        for (int k = 0; k < 20; k++) {
            x.told(k % 7 + 1, k * 3 % 7 == k % 7 ? 0 : k * 3 % 7 + 1, 18 * k);
        }
        x.rope(20);
        for (int k = 0; k < 6; k++) {
            x.knot(k + 1, k + 2, 4 * k + 10, 3);
        }
        leaveTape(x);
        return x;
    }

    private static void leaveTape(DarkSitting x) {
        write(x, "take 7;fre 1");
        throwing("a wrong text", ARGUMENT, x::way);
        write(x, LEFT_ON_TAPE);
    }
}
