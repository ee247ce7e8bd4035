import java.util.ArrayDeque;
import java.util.ArrayList;
import java.util.Arrays;
import java.util.HashSet;
import java.util.List;
import java.util.NoSuchElementException;
import java.util.PriorityQueue;
import java.util.Set;

/**
 * The document once more, written as plainly as it reads and without a thought for speed: the fuzz
 * test holds the class against it. It shares no code with the class.
 */
final class Reference {
    static final class Wrong extends RuntimeException {
        final int at;

        Wrong(int at) {
            this.at = at;
        }
    }

    /** A need: what it says of a sitting at a second with free limbs. */
    interface Need {
        boolean holds(Rules rule, int second, int limbs, boolean helped);
    }

    interface Sum {
        int of(Rules rule, int second, int limbs);
    }

    static final class Rules {
        List<int[]> lines = new ArrayList<>();
        List<int[]> persons;

        Rules without(int line) {
            Rules r = new Rules();
            r.persons = persons;
            r.lines.addAll(lines);
            r.lines.remove(line);
            return r;
        }

        int last() {
            int last = 120;
            for (int[] l : lines) {
                if (l[0] == 'l') {
                    last = l[1];
                }
            }
            return last;
        }

        boolean lit(int second) {
            for (int[] l : lines) {
                if (l[0] == 'L' && second >= l[1] && second < l[2]) {
                    return true;
                }
            }
            return false;
        }

        int holder(int limb) {
            int holder = -1;
            for (int[] l : lines) {
                if (l[0] == 'h' && l[1] == limb) {
                    holder = l[2];
                }
            }
            return holder;
        }

        int slack(int limb) {
            int slack = -1;
            for (int[] l : lines) {
                if (l[0] == 't' && l[1] == limb) {
                    slack = l[2];
                }
            }
            return slack;
        }

        int holderKnows(int limb) {
            int h = holder(limb);
            return h < 0 || h >= persons.size() ? 0 : persons.get(h)[0];
        }

        int holderTires(int limb) {
            int h = holder(limb);
            return h >= persons.size() ? 0 : persons.get(h)[1];
        }
    }

    static final class Ways {
        int frees;
        int take = 1;
        int reach;
        List<Need> needs = new ArrayList<>();
    }

    /** Reads a text sign by sign. */
    static final class Text {
        final String s;
        int p;

        Text(String s) {
            this.s = s;
        }

        void blanks() {
            while (p < s.length() && s.charAt(p) == ' ') {
                p++;
            }
        }

        String peek() {
            blanks();
            if (p == s.length()) {
                return "";
            }
            int q = p;
            while (q < s.length() && Character.toString(s.charAt(q)).matches("[a-z]")) {
                q++;
            }
            if (q > p) {
                return s.substring(p, q);
            }
            while (q < s.length() && Character.toString(s.charAt(q)).matches("[0-9]")) {
                q++;
            }
            return q > p ? s.substring(p, q) : s.substring(p, p + 1);
        }

        void take(String what) {
            if (!peek().equals(what)) {
                throw new Wrong(p);
            }
            p += what.length();
        }

        boolean may(String what) {
            if (peek().equals(what)) {
                p += what.length();
                return true;
            }
            return false;
        }

        int number(int low, int high) {
            String t = peek();
            if (!t.matches("[0-9]{1,3}")) {
                throw new Wrong(p);
            }
            int n = Integer.parseInt(t);
            if (n < low || n > high) {
                throw new Wrong(p);
            }
            p += t.length();
            return n;
        }

        Need all(int deep) {
            List<Need> parts = new ArrayList<>();
            parts.add(atom(deep));
            while (may("and")) {
                parts.add(atom(deep));
            }
            return (r, sec, l, h) -> parts.stream().allMatch(n -> n.holds(r, sec, l, h));
        }

        Need condition(int deep) {
            List<Need> parts = new ArrayList<>();
            parts.add(all(deep));
            while (may("or")) {
                parts.add(all(deep));
            }
            return (r, sec, l, h) -> parts.stream().anyMatch(n -> n.holds(r, sec, l, h));
        }

        Need atom(int deep) {
            String t = peek();
            int at = p;
            switch (t) {
                case "not":
                    if (deep == 6) {
                        throw new Wrong(at);
                    }
                    take("not");
                    Need n = atom(deep + 1);
                    return (r, sec, l, h) -> !n.holds(r, sec, l, h);
                case "(":
                    if (deep == 6) {
                        throw new Wrong(at);
                    }
                    take("(");
                    Need c = condition(deep + 1);
                    take(")");
                    return c;
                case "dark":
                    take(t);
                    return (r, sec, l, h) -> !r.lit(sec);
                case "helped":
                    take(t);
                    return (r, sec, l, h) -> h;
                case "loose": {
                    take(t);
                    int limb = number(0, 3);
                    return (r, sec, l, h) -> (l & 1 << limb) != 0;
                }
                case "held": {
                    take(t);
                    int limb = number(0, 3);
                    return (r, sec, l, h) -> r.holder(limb) >= 0;
                }
                case "tied": {
                    take(t);
                    int limb = number(0, 3);
                    return (r, sec, l, h) -> r.slack(limb) >= 0;
                }
                case "tired": {
                    take(t);
                    int limb = number(0, 3);
                    return (r, sec, l, h) -> r.holder(limb) >= 0 && r.holderTires(limb) <= sec;
                }
                default:
                    Sum left = sum();
                    boolean less = peek().equals("<");
                    if (!less && !peek().equals(">")) {
                        throw new Wrong(p);
                    }
                    p++;
                    Sum right = sum();
                    return (r, sec, l, h) -> less ? left.of(r, sec, l) < right.of(r, sec, l)
                            : left.of(r, sec, l) > right.of(r, sec, l);
            }
        }

        Sum sum() {
            Sum a = part();
            while (may("+")) {
                Sum x = a;
                Sum y = part();
                a = (r, s, l) -> x.of(r, s, l) + y.of(r, s, l);
            }
            return a;
        }

        Sum part() {
            String t = peek();
            switch (t) {
                case "second":
                    take(t);
                    return (r, s, l) -> s;
                case "limbs":
                    take(t);
                    return (r, s, l) -> Integer.bitCount(l);
                case "knows": {
                    take(t);
                    int limb = number(0, 3);
                    return (r, s, l) -> r.holderKnows(limb);
                }
                case "slack": {
                    take(t);
                    int limb = number(0, 3);
                    return (r, s, l) -> r.slack(limb) < 0 ? 99 : r.slack(limb);
                }
                default:
                    int n = number(0, 999);
                    return (r, s, l) -> n;
            }
        }

        Rules rules() {
            Rules r = new Rules();
            if (peek().isEmpty()) {
                return r;
            }
            do {
                String t = peek();
                int at = p;
                if (r.lines.size() == 10 && !t.isEmpty()) {
                    throw new Wrong(at);
                }
                switch (t) {
                    case "hold": {
                        take(t);
                        int limb = number(0, 3);
                        take("by");
                        r.lines.add(new int[] {'h', limb, number(1, 7)});
                        break;
                    }
                    case "tie": {
                        take(t);
                        int limb = number(0, 3);
                        r.lines.add(new int[] {'t', limb, number(0, 99)});
                        break;
                    }
                    case "lit": {
                        take(t);
                        int from = number(0, 300);
                        take("to");
                        r.lines.add(new int[] {'L', from, number(from, 300)});
                        break;
                    }
                    case "last":
                        take(t);
                        r.lines.add(new int[] {'l', number(1, 300)});
                        break;
                    default:
                        throw new Wrong(at);
                }
            } while (may(";"));
            finish();
            return r;
        }

        Ways ways() {
            Ways w = new Ways();
            if (peek().isEmpty()) {
                return w;
            }
            int lines = 0;
            do {
                String t = peek();
                int at = p;
                if (lines == 10 && !t.isEmpty()) {
                    throw new Wrong(at);
                }
                lines++;
                switch (t) {
                    case "free":
                        take(t);
                        w.frees |= 1 << number(0, 3);
                        break;
                    case "take":
                        take(t);
                        w.take = number(1, 60);
                        break;
                    case "reach":
                        take(t);
                        w.reach = number(1, 9);
                        break;
                    case "need":
                        take(t);
                        w.needs.add(condition(0));
                        break;
                    default:
                        throw new Wrong(at);
                }
            } while (may(";"));
            finish();
            return w;
        }

        void finish() {
            if (!peek().isEmpty()) {
                throw new Wrong(p);
            }
        }
    }

    static final class All {
        List<int[]> persons = new ArrayList<>();
        List<Rules> rules = new ArrayList<>();
        List<Ways> ways = new ArrayList<>();
        List<int[]> things = new ArrayList<>();
        List<int[]> notes = new ArrayList<>();
        List<int[]> traps = new ArrayList<>();
        List<int[]> stories = new ArrayList<>();
        List<int[]> nights = new ArrayList<>();
        List<int[]> told = new ArrayList<>();
        List<int[]> knots = new ArrayList<>();
        int knew;
        int rope;

        All copy() {
            All a = new All();
            a.persons.addAll(persons);
            a.rules.addAll(rules);
            a.ways.addAll(ways);
            a.things.addAll(things);
            a.notes.addAll(notes);
            a.traps.addAll(traps);
            a.stories.addAll(stories);
            a.nights.addAll(nights);
            a.told.addAll(told);
            a.knots.addAll(knots);
            a.knew = knew;
            a.rope = rope;
            return a;
        }
    }

    private String tape = "";
    private int fault = -1;
    private All a = new All();
    private All image;

    private static void arg(boolean ok) {
        if (!ok) {
            throw new IllegalArgumentException();
        }
    }

    private static void in(int i, int n) {
        if (i < 0 || i >= n) {
            throw new IndexOutOfBoundsException();
        }
    }

    private static void room(List<?> l, int most) {
        if (l.size() >= most) {
            throw new UnsupportedOperationException();
        }
    }

    private static int add(List<int[]> l, int... row) {
        l.add(row);
        return l.size() - 1;
    }

    int feed(int v, int w, int x, int y, int z) {
        if (tape.length() + 20 > 400) {
            return -1;
        }
        StringBuilder b = new StringBuilder(tape);
        for (int n : new int[] {v, w, x, y, z}) {
            b.append((char) (n >>> 24)).append((char) (n >>> 16 & 255)).append((char) (n >>> 8 & 255)).append((char) (n & 255));
        }
        tape = b.toString();
        return tape.length();
    }

    boolean end(int n) {
        if (n < 0 || n > tape.length()) {
            return false;
        }
        tape = tape.substring(0, n);
        return true;
    }

    int person(int knows, int tires) {
        arg(knows >= 0 && knows <= 9 && tires >= 0 && tires <= 400);
        room(a.persons, 8);
        return add(a.persons, knows, tires);
    }

    int rule() {
        Text t = new Text(tape);
        tape = "";
        fault = -1;
        Rules r = null;
        try {
            r = t.rules();
        } catch (Wrong w) {
            fault = w.at;
        }
        arg(r != null);
        room(a.rules, 4);
        a.rules.add(r);
        return a.rules.size() - 1;
    }

    int way() {
        Text t = new Text(tape);
        tape = "";
        fault = -1;
        Ways w = null;
        try {
            w = t.ways();
        } catch (Wrong x) {
            fault = x.at;
        }
        arg(w != null);
        room(a.ways, 6);
        a.ways.add(w);
        return a.ways.size() - 1;
    }

    int fault() {
        return fault;
    }

    int thing(int hands, int feet, int reach) {
        arg(hands >= 0 && hands <= 2 && feet >= 0 && feet <= 2 && reach >= 0 && reach <= 9);
        room(a.things, 6);
        return add(a.things, hands, feet, reach);
    }

    private Rules ruleNow(int rule) {
        Rules r = a.rules.get(rule);
        r.persons = a.persons;
        return r;
    }

    int look(int rule, int what) {
        in(rule, a.rules.size());
        Rules r = ruleNow(rule);
        int n = 0;
        switch (what) {
            case 0:
                return r.last();
            case 1:
                for (int s = 0; s < r.last(); s++) {
                    n += r.lit(s) ? 1 : 0;
                }
                return n;
            case 2:
                return r.lines.size();
            case 3:
                for (int l = 0; l < 4; l++) {
                    n += r.holder(l) >= 0 ? 1 << l : 0;
                }
                return n;
            case 4:
                for (int l = 0; l < 4; l++) {
                    n += r.slack(l) >= 0 ? 1 << l : 0;
                }
                return n;
            default:
                throw new NoSuchElementException();
        }
    }

    boolean needs(int way, int rule, int second, int limbs, boolean helped) {
        in(way, a.ways.size());
        in(rule, a.rules.size());
        arg(second >= 0 && second <= 300 && limbs >= 0 && limbs <= 15);
        return hold(a.ways.get(way), ruleNow(rule), second, limbs, helped);
    }

    private static boolean hold(Ways w, Rules r, int second, int limbs, boolean helped) {
        for (Need n : w.needs) {
            if (!n.holds(r, second, limbs, helped)) {
                return false;
            }
        }
        return true;
    }

    int note(int thing, int second) {
        in(thing, a.things.size());
        arg(second >= 0 && second <= 300);
        room(a.notes, 10);
        return add(a.notes, thing, second);
    }

    int torn() {
        int n = a.notes.size();
        a.notes.clear();
        return n;
    }

    private int reach(int ways) {
        int reach = 0;
        for (int w = 0; w < a.ways.size(); w++) {
            if ((ways & 1 << w) != 0) {
                reach = Math.max(reach, a.ways.get(w).reach);
            }
        }
        return reach;
    }

    private boolean fits(int[] thing, int limbs, int ways) {
        int hands = (limbs & 1) + (limbs >> 1 & 1);
        int feet = (limbs >> 2 & 1) + (limbs >> 3 & 1);
        return hands >= thing[0] && feet >= thing[1] && reach(ways) >= thing[2];
    }

    /**
     * All (second, limbs) that lie on some whole COURSE, the seconds within a WAY too; each is
     * second * 16 + limbs. Empty if there is no COURSE.
     */
    private Set<Integer> courses(Rules r, int ways, boolean helped, boolean notes) {
        int last = r.last();
        if (notes) {
            for (int[] n : a.notes) {
                if (n[1] > last) {
                    return new HashSet<>();
                }
            }
        }
        // Moves as rows: from second, from limbs, to second, to limbs.
        List<int[]> moves = new ArrayList<>();
        boolean[] seen = new boolean[(last + 1) * 16];
        ArrayDeque<Integer> todo = new ArrayDeque<>();
        if (allowed(r, 0, 0, ways, notes)) {
            seen[0] = true;
            todo.add(0);
        }
        while (!todo.isEmpty()) {
            int at = todo.remove();
            int s = at / 16;
            int l = at % 16;
            if (s == last) {
                continue;
            }
            List<int[]> to = new ArrayList<>();
            for (int sub = 0; sub < 16; sub++) {
                if ((sub & ~l) == 0) {
                    to.add(new int[] {s + 1, sub});
                }
            }
            for (int w = 0; w < a.ways.size(); w++) {
                Ways way = a.ways.get(w);
                if ((ways & 1 << w) == 0 || (way.frees & ~l) == 0 || s + way.take > last) {
                    continue;
                }
                boolean goes = true;
                for (int k = s; k < s + way.take && goes; k++) {
                    goes = hold(way, r, k, l, helped) && allowed(r, k, l, ways, notes);
                }
                if (goes) {
                    to.add(new int[] {s + way.take, l | way.frees});
                }
            }
            for (int[] t : to) {
                if (allowed(r, t[0], t[1], ways, notes)) {
                    moves.add(new int[] {s, l, t[0], t[1]});
                    int next = t[0] * 16 + t[1];
                    if (!seen[next]) {
                        seen[next] = true;
                        todo.add(next);
                    }
                }
            }
        }
        boolean[] home = new boolean[(last + 1) * 16];
        home[last * 16] = seen[last * 16];
        moves.sort((x, y) -> Integer.compare(y[0], x[0]));
        Set<Integer> on = new HashSet<>();
        if (home[last * 16]) {
            on.add(last * 16);
        }
        for (int[] m : moves) {
            if (home[m[2] * 16 + m[3]]) {
                home[m[0] * 16 + m[1]] = true;
                for (int k = m[0]; k < m[2]; k++) {
                    on.add(k * 16 + m[1]);
                }
            }
        }
        return on;
    }

    private boolean allowed(Rules r, int s, int l, int ways, boolean notes) {
        if (l != 0 && (s == r.last() || r.lit(s))) {
            return false;
        }
        if (notes) {
            for (int[] n : a.notes) {
                if (n[1] == s && !fits(a.things.get(n[0]), l, ways)) {
                    return false;
                }
            }
        }
        return true;
    }

    boolean can(int rule, int ways, boolean helped) {
        in(rule, a.rules.size());
        return !courses(ruleNow(rule), ways, helped, true).isEmpty();
    }

    int fewest(int rule, boolean helped) {
        in(rule, a.rules.size());
        int best = -1;
        for (int ways = 0; ways < 1 << a.ways.size(); ways++) {
            if ((best < 0 || Integer.bitCount(ways) < Integer.bitCount(best)) && can(rule, ways, helped)) {
                best = ways;
            }
        }
        return best;
    }

    private int earliest(Rules r, int ways, boolean helped, int[] thing) {
        int best = -1;
        for (int at : courses(r, ways, helped, false)) {
            if (fits(thing, at % 16, ways) && (best < 0 || at / 16 < best)) {
                best = at / 16;
            }
        }
        return best;
    }

    int earliest(int rule, int ways, boolean helped, int thing) {
        in(rule, a.rules.size());
        in(thing, a.things.size());
        return earliest(ruleNow(rule), ways, helped, a.things.get(thing));
    }

    int may(int rule, int ways, boolean helped, int second) {
        in(rule, a.rules.size());
        arg(second >= 0 && second <= 300);
        int limbs = 0;
        for (int at : courses(ruleNow(rule), ways, helped, false)) {
            limbs |= at / 16 == second ? at % 16 : 0;
        }
        return limbs;
    }

    int shut(int thing) {
        in(thing, a.things.size());
        int bits = 0;
        for (int r = 0; r < a.rules.size(); r++) {
            bits |= earliest(ruleNow(r), -1, false, a.things.get(thing)) < 0 ? 1 << r : 0;
        }
        return bits;
    }

    int opens(int rule, int thing) {
        in(rule, a.rules.size());
        in(thing, a.things.size());
        Rules r = ruleNow(rule);
        if (earliest(r, -1, false, a.things.get(thing)) >= 0) {
            return -1;
        }
        int bits = 0;
        for (int l = 0; l < r.lines.size(); l++) {
            bits |= earliest(r.without(l), -1, false, a.things.get(thing)) >= 0 ? 1 << l : 0;
        }
        return bits;
    }

    int trap(int way, int used, int not) {
        in(way, a.ways.size());
        arg(used >= 1 && used <= 9 && not >= 1 && not <= 9);
        room(a.traps, 4);
        return add(a.traps, way, used, not);
    }

    int story(int weight, int ways, int helper) {
        arg(weight >= 1 && weight <= 99 && helper >= -1 && helper != 0 && helper <= 7);
        room(a.stories, 5);
        return add(a.stories, weight, ways, helper);
    }

    int night(int rule, int there, int things, int set, int sprang) {
        in(rule, a.rules.size());
        arg(there >= 0 && there < 256 && things >= 0 && things < 1 << a.things.size());
        arg(set >= 0 && set < 1 << a.traps.size() && (sprang | set) == set);
        room(a.nights, 12);
        return add(a.nights, rule, there, things, set, sprang);
    }

    int odds(int story) {
        return oddsBy(story, a.nights.size());
    }

    int oddsBy(int story, int nights) {
        in(story, a.stories.size());
        arg(nights >= 0 && nights <= a.nights.size());
        return allOdds(nights)[story];
    }

    private int[] allOdds(int nights) {
        int n = a.stories.size();
        long[] w = new long[n];
        for (int s = 0; s < n; s++) {
            w[s] = a.stories.get(s)[0];
        }
        int[] odds = share(w);
        for (int k = 0; k < nights; k++) {
            for (int s = 0; s < n; s++) {
                w[s] = odds[s] * factor(s, k);
            }
            if (Arrays.stream(w).sum() != 0) {
                odds = share(w);
            }
        }
        return odds;
    }

    private static int[] share(long[] w) {
        long all = Arrays.stream(w).sum();
        int[] odds = new int[w.length];
        int most = 0;
        int sum = 0;
        for (int s = 0; s < w.length; s++) {
            odds[s] = java.math.BigInteger.valueOf(w[s]).multiply(java.math.BigInteger.valueOf(10000))
                    .divide(java.math.BigInteger.valueOf(all)).intValueExact();
            sum += odds[s];
            most = w[s] > w[most] ? s : most;
        }
        if (w.length > 0) {
            odds[most] += 10000 - sum;
        }
        return odds;
    }

    long factor(int story, int night) {
        in(story, a.stories.size());
        in(night, a.nights.size());
        int[] st = a.stories.get(story);
        int[] ni = a.nights.get(night);
        boolean helped = st[2] > 0 && (ni[1] & 1 << st[2]) != 0;
        long f = 1;
        Set<Integer> on = courses(ruleNow(ni[0]), st[1], helped, false);
        for (int t = 0; t < a.things.size(); t++) {
            int[] thing = a.things.get(t);
            boolean can = on.stream().anyMatch(at -> fits(thing, at % 16, st[1]));
            boolean came = (ni[2] & 1 << t) != 0;
            f *= can ? came ? 7 : 3 : came ? 1 : 9;
        }
        for (int t = 0; t < a.traps.size(); t++) {
            if ((ni[3] & 1 << t) != 0) {
                int often = often(t, story);
                f *= (ni[4] & 1 << t) != 0 ? often : 10 - often;
            }
        }
        return f;
    }

    private int often(int trap, int story) {
        int[] t = a.traps.get(trap);
        return (a.stories.get(story)[1] & 1 << t[0]) != 0 ? t[1] : t[2];
    }

    long says(int trap) {
        in(trap, a.traps.size());
        int[] odds = allOdds(a.nights.size());
        long m = 0;
        for (int s = 0; s < odds.length; s++) {
            m += (long) odds[s] * often(trap, s);
        }
        long sum = 0;
        for (int s = 0; s < odds.length; s++) {
            long d = 10000L * often(trap, s) - m;
            sum += odds[s] * (d < 0 ? -d : d);
        }
        return sum / 10000;
    }

    int with(int person, int what) {
        in(person, 8);
        if (what < 0 || what > 3) {
            throw new NoSuchElementException();
        }
        int there = 0;
        int came = 0;
        for (int n = 0; n < a.nights.size(); n++) {
            there |= (a.nights.get(n)[1] & 1 << person) != 0 ? 1 << n : 0;
            came |= a.nights.get(n)[2] != 0 ? 1 << n : 0;
        }
        if (what < 3) {
            return Integer.bitCount(what == 0 ? there & came : what == 1 ? there : came);
        }
        int many = 0;
        for (int chosen = 0; chosen < 1 << a.nights.size(); chosen++) {
            if (Integer.bitCount(chosen) == Integer.bitCount(there)
                    && Integer.bitCount(chosen & came) >= Integer.bitCount(there & came)) {
                many++;
            }
        }
        return many;
    }

    void knew(int persons) {
        arg((persons & ~0xFE) == 0);
        a.knew = persons;
    }

    int told(int from, int to, int day) {
        in(from, 8);
        in(to, 8);
        arg(from != to && day >= 0 && day <= 365);
        room(a.told, 20);
        return add(a.told, from, to, day);
    }

    private int knowing(int day, int knew, int silent) {
        int know = knew;
        for (int d = 0; d <= day; d++) {
            int before;
            do {
                before = know;
                for (int[] t : a.told) {
                    if (t[2] == d && t[0] != silent && (know & 1 << t[0]) != 0) {
                        know |= 1 << t[1];
                    }
                }
            } while (know != before);
        }
        return know;
    }

    int knows(int day) {
        arg(day >= 0 && day <= 365);
        return knowing(day, a.knew, -1);
    }

    int whence(int day, boolean must) {
        arg(day >= 0 && day <= 365);
        int bits = 0;
        for (int p = 1; p < 8; p++) {
            if (must) {
                bits |= (knowing(day, a.knew, -1) & 1) != 0 && (knowing(day, a.knew, p) & 1) == 0 ? 1 << p : 0;
            } else {
                bits |= (a.knew & 1 << p) != 0 && (knowing(day, 1 << p, -1) & 1) != 0 ? 1 << p : 0;
            }
        }
        return bits;
    }

    int knot(int opening, int tying, int need, int gives) {
        arg(opening >= 1 && opening <= 99 && tying >= 1 && tying <= 99);
        arg(need >= 0 && need <= 50 && gives >= 0 && gives <= 50);
        room(a.knots, 6);
        return add(a.knots, opening, tying, need, gives);
    }

    void rope(int slack) {
        arg(slack >= 0 && slack <= 50);
        a.rope = slack;
    }

    /** From some open KNOTS on; a state is the open ones and whether all wanted were open at once. */
    private int row(int from, int knots, boolean in) {
        int want = knots & (1 << a.knots.size()) - 1;
        int[] best = new int[128];
        Arrays.fill(best, Integer.MAX_VALUE);
        PriorityQueue<int[]> queue = new PriorityQueue<>((x, y) -> Integer.compare(x[0], y[0]));
        queue.add(new int[] {0, from});
        while (!queue.isEmpty()) {
            int[] q = queue.remove();
            int open = q[1] & 63;
            boolean was = q[1] >= 64 || (open & want) == want;
            int state = open | (was ? 64 : 0);
            if (was && (!in || open == 0)) {
                return q[0];
            }
            if (best[state] <= q[0]) {
                continue;
            }
            best[state] = q[0];
            for (int k = 0; k < a.knots.size(); k++) {
                int[] knot = a.knots.get(k);
                int slack = a.rope;
                for (int o = 0; o < a.knots.size(); o++) {
                    slack += o != k && (open & 1 << o) != 0 ? a.knots.get(o)[3] : 0;
                }
                if (slack >= knot[2]) {
                    queue.add(new int[] {q[0] + ((open & 1 << k) != 0 ? knot[1] : knot[0]), state ^ 1 << k});
                }
            }
        }
        return -1;
    }

    int out(int knots, boolean in) {
        return row(0, knots, in);
    }

    int first(int knots) {
        int all = row(0, knots, false);
        if (all <= 0) {
            return -1;
        }
        for (int k = 0; k < a.knots.size(); k++) {
            int rest = row(1 << k, knots, false);
            if (a.rope >= a.knots.get(k)[2] && rest >= 0 && rest + a.knots.get(k)[0] == all) {
                return k;
            }
        }
        throw new AssertionError();
    }

    int tale(int n, int grows, int years) {
        arg(n >= 0 && n <= 9999 && grows >= 0 && grows <= 100 && years >= 0 && years <= 20);
        java.math.BigInteger x = java.math.BigInteger.valueOf(n);
        for (int y = 0; y < years; y++) {
            java.math.BigInteger[] d = x.multiply(java.math.BigInteger.valueOf(grows))
                    .divideAndRemainder(java.math.BigInteger.valueOf(100));
            x = x.add(d[0]).add(d[1].signum() > 0 ? java.math.BigInteger.ONE : java.math.BigInteger.ZERO);
        }
        return x.min(java.math.BigInteger.valueOf(1000000000)).intValueExact();
    }

    int cold(int doors, int degrees, int place) {
        arg(doors >= 0 && doors <= 255 && degrees >= 0 && degrees <= 99 && place >= 0 && place <= 7);
        for (int far = 0; far <= 4; far++) {
            if ((doors & (1 << (place + far) % 8 | 1 << (place - far + 8) % 8)) != 0) {
                return Math.max(0, degrees - 2 * far);
            }
        }
        return 0;
    }

    void image() {
        image = a.copy();
    }

    boolean back() {
        if (image == null) {
            return false;
        }
        a = image.copy();
        return true;
    }

    int count(int what) {
        List<List<?>> lists = List.of(a.persons, a.rules, a.ways, a.things, a.notes, a.traps, a.stories, a.nights,
                a.told, a.knots);
        return what < 0 || what > 9 ? -1 : lists.get(what).size();
    }
}
