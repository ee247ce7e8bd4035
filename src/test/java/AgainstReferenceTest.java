import java.lang.reflect.InvocationTargetException;
import java.lang.reflect.Method;
import java.util.Arrays;
import java.util.HashMap;
import java.util.Map;
import java.util.Random;

/** Runs of calls drawn by seeds, each answered by the class and by the Reference. */
public final class AgainstReferenceTest {
    private static final Map<String, Method> OURS = methods(DarkSitting.class);
    private static final Map<String, Method> DUE = methods(Reference.class);
    private static final String[] CALLS = {"feed", "end", "person", "thing", "look", "needs", "note", "torn", "can",
        "fewest", "earliest", "may", "shut", "opens", "trap", "story", "night", "odds", "oddsBy", "factor", "says",
        "with", "knew", "told", "knows", "whence", "knot", "rope", "out", "first", "tale", "cold", "image", "back",
        "count"};

    private final Random random;
    private final DarkSitting ours = new DarkSitting();
    private final Reference due = new Reference();
    private final StringBuilder said = new StringBuilder();
    private int wrong;
    private static final Map<String, Integer> TALLY = new java.util.TreeMap<>();

    private AgainstReferenceTest(long seed) {
        random = new Random(seed);
    }

    private static Map<String, Method> methods(Class<?> of) {
        Map<String, Method> map = new HashMap<>();
        for (Method m : of.getDeclaredMethods()) {
            if (!java.lang.reflect.Modifier.isStatic(m.getModifiers())
                    && !java.lang.reflect.Modifier.isPrivate(m.getModifiers())) {
                m.setAccessible(true);
                map.put(m.getName(), m);
            }
        }
        return map;
    }

    private static Object answer(Method m, Object on, Object[] args) {
        try {
            return m.invoke(on, args);
        } catch (InvocationTargetException e) {
            return "throws." + e.getCause().getClass().getSimpleName();
        } catch (IllegalAccessException e) {
            throw new AssertionError(e);
        }
    }

    private Object call(String name, Object... args) {
        Object want = answer(DUE.get(name), due, args);
        Object got = answer(OURS.get(name), ours, args);
        String row = name + Arrays.toString(args) + " = " + got;
        said.append("  ").append(row).append('\n');
        String kind = name + " " + (want instanceof String ? want : want instanceof Boolean ? want
                : want == null ? "void" : ((Number) want).longValue() == -1 ? "NONE"
                : ((Number) want).longValue() == 0 ? "0" : "+");
        TALLY.merge(kind, 1, Integer::sum);
        if (!String.valueOf(want).equals(String.valueOf(got))) {
            wrong++;
            if (wrong == 1) {
                System.out.println(said + "  due is " + want);
            }
        }
        return want;
    }

    private int to(int most) {
        return random.nextInt(most + 1);
    }

    private boolean chance(int ofHundred) {
        return random.nextInt(100) < ofHundred;
    }

    private String pick(String... of) {
        return of[random.nextInt(of.length)];
    }

    private String blank() {
        return chance(85) ? " " : pick("  ", "   ");
    }

    private String gap() {
        return chance(80) ? "" : blank();
    }

    private String limb() {
        return String.valueOf(chance(97) ? to(3) : to(5));
    }

    private String ruleLine(int length) {
        switch (to(5)) {
            case 0:
            case 1:
                return "hold" + blank() + limb() + blank() + "by" + blank() + (chance(97) ? 1 + to(6) : to(9));
            case 2:
                return "tie" + blank() + limb() + blank() + (chance(97) ? to(12) : to(120));
            case 3:
            case 4:
                int from = to(length);
                return "lit" + blank() + from + blank() + "to" + blank() + (chance(96) ? Math.min(300, from + to(6)) : to(310));
            default:
                return "last" + blank() + (chance(96) ? 1 + to(length) : to(330));
        }
    }

    private String sum() {
        StringBuilder b = new StringBuilder(part());
        while (chance(20)) {
            b.append(gap()).append('+').append(gap()).append(part());
        }
        return b.toString();
    }

    private String part() {
        switch (to(6)) {
            case 0:
            case 1:
                return "second";
            case 2:
                return "limbs";
            case 3:
                return "knows" + gap() + limb();
            case 4:
                return "slack" + gap() + limb();
            default:
                return String.valueOf(chance(60) ? to(10) : chance(97) ? to(60) : to(1200));
        }
    }

    private String atom(int deep) {
        if (deep < 7 && chance(22)) {
            return chance(50) ? "not " + atom(deep + 1) : "(" + gap() + condition(deep + 1) + gap() + ")";
        }
        switch (to(9)) {
            case 0:
            case 1:
                return "dark";
            case 2:
                return "helped";
            case 3:
                return "loose " + limb();
            case 4:
                return pick("held ", "tied ") + limb();
            case 5:
                return "tired " + limb();
            default:
                return sum() + gap() + pick("<", ">") + gap() + sum();
        }
    }

    private String condition(int deep) {
        StringBuilder b = new StringBuilder(atom(deep));
        while (chance(25)) {
            b.append(pick(" and ", " or ")).append(atom(deep));
        }
        return b.toString();
    }

    private String wayLine() {
        switch (to(6)) {
            case 0:
            case 1:
                return "free" + blank() + limb();
            case 2:
                return "take" + blank() + (chance(85) ? 1 + to(5) : chance(85) ? 1 + to(24) : to(70));
            case 3:
                return "reach" + blank() + (chance(95) ? 1 + to(8) : to(12));
            default:
                return "need" + blank() + condition(chance(90) ? 2 : 0);
        }
    }

    private String text(boolean ofRule, int length) {
        StringBuilder b = new StringBuilder(gap());
        int lines = chance(4) ? 8 + to(4) : to(5);
        for (int line = 0; line < lines; line++) {
            b.append(line == 0 ? "" : gap() + ";" + gap()).append(ofRule ? ruleLine(length) : wayLine());
        }
        if (ofRule && lines > 0 && lines < 10 && chance(70)) {
            b.append(";last ").append(1 + to(length));
        }
        if (!ofRule && lines > 0 && lines < 10 && chance(85)) {
            b.append(";free ").append(to(3));
        }
        b.append(gap());
        while (b.length() > 0 && chance(8)) {
            int at = random.nextInt(b.length());
            switch (to(3)) {
                case 0:
                    b.deleteCharAt(at);
                    break;
                case 1:
                    b.insert(at, pick(";", "(", ")", "+", "<", ">", " ", "1", "a", "not ", "\u00e9", "\u0000", "A"));
                    break;
                case 2:
                    b.setLength(at);
                    break;
                default:
                    b.setCharAt(at, (char) to(255));
                    break;
            }
        }
        return b.toString();
    }

    private void write(String text) {
        for (int at = 0; at < text.length(); at += 20) {
            Object[] numbers = new Object[5];
            for (int n = 0; n < 5; n++) {
                int number = 0;
                for (int k = 0; k < 4; k++) {
                    int place = at + 4 * n + k;
                    number = number << 8 | (place < text.length() ? text.charAt(place) : 0);
                }
                numbers[n] = number;
            }
            call("feed", numbers);
        }
        call("end", text.length());
        said.append("  (").append(text).append(")\n");
    }

    /** A number of a parameter: mostly one that may be, at times one at or beyond an edge. */
    private int some(int least, int greatest) {
        if (chance(6)) {
            int[] odd = {least - 1, greatest + 1, Integer.MIN_VALUE, Integer.MAX_VALUE, -2, 1 << 30};
            return odd[random.nextInt(odd.length)];
        }
        return chance(8) ? least : chance(8) ? greatest : least + random.nextInt(greatest - least + 1);
    }

    private int row(int what) {
        return some(0, Math.max(0, due.count(what) - 1));
    }

    private int bits(int what) {
        return chance(4) ? random.nextInt() : random.nextInt(1 << due.count(what));
    }

    private int ways() {
        return chance(40) ? -1 : chance(10) ? random.nextInt() : random.nextInt(64);
    }

    private void one(String name, int length) {
        switch (name) {
            case "feed":
                if (chance(20)) {
                    call(name, random.nextInt(), random.nextInt(), random.nextInt(), random.nextInt(), random.nextInt());
                }
                break;
            case "end":
                call(name, some(0, 40));
                break;
            case "person":
                call(name, some(0, 9), chance(60) ? to(length) : some(0, 400));
                break;
            case "thing":
                call(name, some(0, 2), some(0, 2), chance(60) ? 0 : some(0, 9));
                break;
            case "look":
                call(name, row(1), some(0, 4));
                break;
            case "needs":
                call(name, row(2), row(1), chance(70) ? to(length) : some(0, 300), some(0, 15), chance(50));
                break;
            case "note":
                call(name, row(3), chance(85) ? to(length) : some(0, 300));
                break;
            case "can":
                call(name, row(1), ways(), chance(50));
                break;
            case "fewest":
                call(name, row(1), chance(50));
                break;
            case "earliest":
                call(name, row(1), ways(), chance(50), row(3));
                break;
            case "may":
                call(name, row(1), ways(), chance(50), chance(85) ? to(length) : some(0, 300));
                break;
            case "shut":
                call(name, row(3));
                break;
            case "opens":
                call(name, row(1), row(3));
                break;
            case "trap":
                call(name, row(2), some(1, 9), some(1, 9));
                break;
            case "story":
                call(name, some(1, 99), ways(), chance(30) ? -1 : some(1, 7));
                break;
            case "night":
                int set = bits(5);
                call(name, row(1), chance(5) ? random.nextInt() : to(255), bits(3), set,
                        chance(95) ? set & random.nextInt() : bits(5));
                break;
            case "oddsBy":
                call(name, row(6), some(0, due.count(7)));
                break;
            case "factor":
                call(name, row(6), row(7));
                break;
            case "with":
                call(name, some(0, 7), some(0, 3));
                break;
            case "knew":
                call(name, chance(90) ? to(127) * 2 : random.nextInt(300) - 20);
                break;
            case "told":
                call(name, some(0, 7), some(0, 7), chance(80) ? to(8) : some(0, 365));
                break;
            case "knows":
                call(name, chance(80) ? to(8) : some(0, 365));
                break;
            case "whence":
                call(name, chance(80) ? to(8) : some(0, 365), chance(50));
                break;
            case "knot":
                call(name, some(1, 99), some(1, 99), chance(80) ? to(20) : some(0, 50), chance(80) ? to(10) : some(0, 50));
                break;
            case "rope":
                call(name, chance(80) ? to(10) : some(0, 50));
                break;
            case "out":
                call(name, ways(), chance(50));
                break;
            case "first":
                call(name, ways());
                break;
            case "tale":
                call(name, some(0, 9999), some(0, 100), some(0, 20));
                break;
            case "cold":
                call(name, some(0, 255), some(0, 99), some(0, 7));
                break;
            case "count":
                call(name, some(0, 9));
                break;
            case "odds":
                call(name, row(6));
                break;
            case "says":
                call(name, row(5));
                break;
            case "torn":
                if (chance(40)) {
                    call(name);
                }
                break;
            case "image":
            case "back":
                if (chance(25)) {
                    call(name);
                }
                break;
            default:
                call(name);
                break;
        }
    }

    private void writeAndRead(boolean ofRule, int length) {
        write(text(ofRule, length));
        call(ofRule ? "rule" : "way");
        call("fault");
    }

    /** Most runs begin with enough of all to ask about. */
    private void setUp(int length) {
        for (int n = to(8); n > 0; n--) {
            one("person", length);
        }
        for (int n = 1 + to(2); n > 0; n--) {
            writeAndRead(true, length);
        }
        for (int n = 2 + to(3); n > 0; n--) {
            writeAndRead(false, length);
        }
        for (int n = 1 + to(4); n > 0; n--) {
            one("thing", length);
        }
        String[] more = {"trap", "story", "story", "night", "night", "told", "told", "told", "knot", "knot", "knew"};
        for (int n = to(40); n > 0; n--) {
            one(more[random.nextInt(more.length)], length);
        }
    }

    private int go(int calls) {
        int length = chance(70) ? 8 + to(20) : 300;
        if (chance(80)) {
            setUp(length);
        }
        int texts = chance(80) ? 3 : 20;
        for (int made = 0; made < calls && wrong == 0; made++) {
            if (chance(texts)) {
                writeAndRead(chance(40), length);
            } else if (chance(2)) {
                call("fault");
            } else {
                one(CALLS[random.nextInt(CALLS.length)], length);
            }
        }
        for (int what = 0; what < 10; what++) {
            call("count", what);
        }
        return wrong;
    }

    public static void main(String[] args) {
        int runs = args.length > 0 ? Integer.parseInt(args[0]) : 400;
        long from = args.length > 1 ? Long.parseLong(args[1]) : 1;
        int wrong = 0;
        for (int run = 0; run < runs && wrong == 0; run++) {
            wrong += new AgainstReferenceTest(from + run).go(160);
        }
        if (args.length > 0) {
            TALLY.forEach((k, v) -> System.out.println(k + ": " + v));
        }
        System.out.println(wrong == 0 ? runs + " runs are as the reference has them" : "a run is not as the reference has it");
        if (wrong != 0) {
            System.exit(1);
        }
    }
}
