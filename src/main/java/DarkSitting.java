import java.util.Arrays;
import java.util.NoSuchElementException;

/** Rules of dark sittings, ways to free a limb in them, and what can have been done by them unseen. */
public final class DarkSitting {
    public static final int NONE = -1;

    private static final int MOST_BYTES = 400;
    private static final int FEED_BYTES = 20;
    private static final int MOST_PERSONS = 8;
    private static final int MOST_RULES = 4;
    private static final int MOST_WAYS = 6;
    private static final int MOST_LINES = 10;
    private static final int MOST_STORIES = 5;
    private static final int MOST_KNOTS = 6;
    private static final int LIMBS = 4;
    private static final int LAST_SECOND = 300;
    private static final int SECONDS = LAST_SECOND + 1;
    private static final int LAST_DAY = 365;
    private static final int ALL_ODDS = 10000;
    private static final int MOST_TALE = 1000000000;
    private static final int PLACES = 8;

    // Sets of LIMBS are 0 to 15; many such sets at once are the bits of an int, bit S for the set S.
    private static final int ALL_SETS = 0xFFFF;
    private static final int EMPTY_SET = 1;
    private static final int[] SETS_WITH_LIMB = {0xAAAA, 0xCCCC, 0xF0F0, 0xFF00};
    private static final int[] SETS_OF_SIZE = {0x0001, 0x0116, 0x1668, 0x6880, 0x8000};
    private static final int[] SETS_WITH_HANDS = {0xFFFF, 0xEEEE, 0x8888};
    private static final int[] SETS_WITH_FEET = {0xFFFF, 0xFFF0, 0xF000};

    private final byte[] tape = new byte[MOST_BYTES];
    private int tapeSize;
    private final Reader reader = new Reader();
    private final Book book = new Book();
    private final Book keptBook = new Book();
    private boolean isKept;
    private final Course course = new Course(book);
    private final Ropes ropes = new Ropes(book);
    private final long[] shares = new long[MOST_STORIES];
    private final int[] storyOdds = new int[MOST_STORIES];
    private final int[] knowsSince = new int[MOST_PERSONS];

    public DarkSitting() {
    }

    public int feed(int a, int b, int c, int d, int e) {
        if (tapeSize > MOST_BYTES - FEED_BYTES) {
            return NONE;
        }
        putNumber(a);
        putNumber(b);
        putNumber(c);
        putNumber(d);
        putNumber(e);
        return tapeSize;
    }

    public boolean end(int n) {
        if (n < 0 || n > tapeSize) {
            return false;
        }
        tapeSize = n;
        return true;
    }

    public int person(int knows, int tires) throws IllegalArgumentException, UnsupportedOperationException {
        demand(isBetween(knows, 0, 9) && isBetween(tires, 0, 400));
        demandRoom(book.persons.hasRoom());
        course.forget();
        return book.persons.add(knows, tires, 0, 0, 0);
    }

    public int rule() throws IllegalArgumentException, UnsupportedOperationException {
        boolean isRight = reader.readLines(tape, tapeSize, true);
        tapeSize = 0;
        demand(isRight);
        demandRoom(book.ruleCount < MOST_RULES);
        return book.addRule(reader.ruleRead());
    }

    public int way() throws IllegalArgumentException, UnsupportedOperationException {
        boolean isRight = reader.readLines(tape, tapeSize, false);
        tapeSize = 0;
        demand(isRight);
        demandRoom(book.wayCount < MOST_WAYS);
        return book.addWay(reader.wayRead());
    }

    public int fault() {
        return reader.wrong;
    }

    public int thing(int hands, int feet, int reach) throws IllegalArgumentException, UnsupportedOperationException {
        demand(isBetween(hands, 0, 2) && isBetween(feet, 0, 2) && isBetween(reach, 0, 9));
        demandRoom(book.things.hasRoom());
        return book.things.add(hands, feet, reach, 0, 0);
    }

    public int look(int rule, int what) throws IndexOutOfBoundsException, NoSuchElementException {
        demandRow(rule, book.ruleCount);
        demandWhat(what, 4);
        Sitting sitting = course.sitting;
        sitting.settle(book.rules[rule], NONE, book.persons);
        switch (what) {
            case 0:
                return sitting.last;
            case 1:
                return sitting.litSeconds();
            case 2:
                return book.rules[rule].lineCount();
            case 3:
                return sitting.held;
            default:
                return sitting.tied;
        }
    }

    public boolean needs(int way, int rule, int second, int limbs, boolean helped)
            throws IndexOutOfBoundsException, IllegalArgumentException {
        demandRow(way, book.wayCount);
        demandRow(rule, book.ruleCount);
        demand(isBetween(second, 0, LAST_SECOND) && isBetween(limbs, 0, 15));
        course.sitting.settle(book.rules[rule], NONE, book.persons);
        return hasBit(course.sitting.setsThatMeet(book.ways[way], second, helped), limbs);
    }

    public int note(int thing, int second)
            throws IndexOutOfBoundsException, IllegalArgumentException, UnsupportedOperationException {
        demandRow(thing, book.things.size);
        demand(isBetween(second, 0, LAST_SECOND));
        demandRoom(book.notes.hasRoom());
        return book.notes.add(thing, second, 0, 0, 0);
    }

    public int torn() {
        int were = book.notes.size;
        book.notes.size = 0;
        return were;
    }

    public boolean can(int rule, int ways, boolean helped) throws IndexOutOfBoundsException {
        demandRow(rule, book.ruleCount);
        course.prepare(rule, NONE, ways, helped);
        return course.bringsAllNotes(ways);
    }

    public int fewest(int rule, boolean helped) throws IndexOutOfBoundsException {
        demandRow(rule, book.ruleCount);
        int all = book.allWays();
        course.prepare(rule, NONE, all, helped);
        // More WAYS never take a COURSE away: what all of them cannot do, none of their sets can.
        if (!course.bringsAllNotes(all)) {
            return NONE;
        }
        for (int size = 0; size < book.wayCount; size++) {
            for (int ways = 0; ways < all; ways++) {
                if (Integer.bitCount(ways) == size && course.bringsAllNotes(ways)) {
                    return ways;
                }
            }
        }
        return all;
    }

    public int earliest(int rule, int ways, boolean helped, int thing) throws IndexOutOfBoundsException {
        demandRow(rule, book.ruleCount);
        demandRow(thing, book.things.size);
        course.prepare(rule, NONE, ways, helped);
        course.walk(ways);
        return course.firstSecondOf(book.setsFor(thing, ways));
    }

    public int may(int rule, int ways, boolean helped, int second)
            throws IndexOutOfBoundsException, IllegalArgumentException {
        demandRow(rule, book.ruleCount);
        demand(isBetween(second, 0, LAST_SECOND));
        course.prepare(rule, NONE, ways, helped);
        course.walk(ways);
        return course.limbsAt(second);
    }

    public int shut(int thing) throws IndexOutOfBoundsException {
        demandRow(thing, book.things.size);
        int bits = 0;
        for (int rule = 0; rule < book.ruleCount; rule++) {
            if (!course.canEver(rule, book.allWays(), false, thing)) {
                bits |= 1 << rule;
            }
        }
        return bits;
    }

    public int opens(int rule, int thing) throws IndexOutOfBoundsException {
        demandRow(rule, book.ruleCount);
        demandRow(thing, book.things.size);
        int all = book.allWays();
        if (course.canEver(rule, all, false, thing)) {
            return NONE;
        }
        int bits = 0;
        for (int line = 0; line < book.rules[rule].lineCount(); line++) {
            course.prepare(rule, line, all, false);
            course.walk(all);
            if (course.firstSecondOf(book.setsFor(thing, all)) != NONE) {
                bits |= 1 << line;
            }
        }
        return bits;
    }

    public int trap(int way, int used, int not)
            throws IndexOutOfBoundsException, IllegalArgumentException, UnsupportedOperationException {
        demandRow(way, book.wayCount);
        demand(isBetween(used, 1, 9) && isBetween(not, 1, 9));
        demandRoom(book.traps.hasRoom());
        return book.traps.add(way, used, not, 0, 0);
    }

    public int story(int weight, int ways, int helper) throws IllegalArgumentException, UnsupportedOperationException {
        demand(isBetween(weight, 1, 99) && (helper == NONE || isBetween(helper, 1, 7)));
        demandRoom(book.stories.hasRoom());
        return book.stories.add(weight, ways, helper, 0, 0);
    }

    public int night(int rule, int there, int things, int set, int sprang)
            throws IndexOutOfBoundsException, IllegalArgumentException, UnsupportedOperationException {
        demandRow(rule, book.ruleCount);
        demand(isOfFirst(there, MOST_PERSONS) && isOfFirst(things, book.things.size));
        demand(isOfFirst(set, book.traps.size) && (sprang & ~set) == 0);
        demandRoom(book.nights.hasRoom());
        return book.nights.add(rule, there, things, set, sprang);
    }

    public int odds(int story) throws IndexOutOfBoundsException {
        demandRow(story, book.stories.size);
        reckonOdds(book.nights.size);
        return storyOdds[story];
    }

    public int oddsBy(int story, int nights) throws IndexOutOfBoundsException, IllegalArgumentException {
        demandRow(story, book.stories.size);
        demand(isBetween(nights, 0, book.nights.size));
        reckonOdds(nights);
        return storyOdds[story];
    }

    public long factor(int story, int night) throws IndexOutOfBoundsException {
        demandRow(story, book.stories.size);
        demandRow(night, book.nights.size);
        return allFactors(story, night);
    }

    public long says(int trap) throws IndexOutOfBoundsException {
        demandRow(trap, book.traps.size);
        reckonOdds(book.nights.size);
        long middle = 0;
        for (int story = 0; story < book.stories.size; story++) {
            middle += (long) storyOdds[story] * springs(trap, story);
        }
        long sum = 0;
        for (int story = 0; story < book.stories.size; story++) {
            sum += storyOdds[story] * Math.abs((long) ALL_ODDS * springs(trap, story) - middle);
        }
        return sum / ALL_ODDS;
    }

    public int with(int person, int what) throws IndexOutOfBoundsException, NoSuchElementException {
        demandRow(person, MOST_PERSONS);
        demandWhat(what, 3);
        int there = 0;
        int came = 0;
        int both = 0;
        for (int night = 0; night < book.nights.size; night++) {
            boolean wasThere = hasBit(book.nights.get(night, Book.NIGHT_THERE), person);
            boolean someCame = book.nights.get(night, Book.NIGHT_THINGS) != 0;
            there += wasThere ? 1 : 0;
            came += someCame ? 1 : 0;
            both += wasThere && someCame ? 1 : 0;
        }
        switch (what) {
            case 0:
                return both;
            case 1:
                return there;
            case 2:
                return came;
            default:
                return choicesWithAtLeast(both, there, came);
        }
    }

    public void knew(int persons) throws IllegalArgumentException {
        demand(isOfFirst(persons, MOST_PERSONS) && !hasBit(persons, 0));
        book.beginners = persons;
    }

    public int told(int from, int to, int day)
            throws IndexOutOfBoundsException, IllegalArgumentException, UnsupportedOperationException {
        demandRow(from, MOST_PERSONS);
        demandRow(to, MOST_PERSONS);
        demand(from != to && isBetween(day, 0, LAST_DAY));
        demandRoom(book.tellings.hasRoom());
        return book.tellings.add(from, to, day, 0, 0);
    }

    public int knows(int day) throws IllegalArgumentException {
        demand(isBetween(day, 0, LAST_DAY));
        return knowersOn(day, book.beginners, NONE);
    }

    public int whence(int day, boolean must) throws IllegalArgumentException {
        demand(isBetween(day, 0, LAST_DAY));
        return must ? neededTellers(day) : sources(day);
    }

    public int knot(int opening, int tying, int need, int gives)
            throws IllegalArgumentException, UnsupportedOperationException {
        demand(isBetween(opening, 1, 99) && isBetween(tying, 1, 99));
        demand(isBetween(need, 0, 50) && isBetween(gives, 0, 50));
        demandRoom(book.knots.hasRoom());
        return book.knots.add(opening, tying, need, gives, 0);
    }

    public void rope(int slack) throws IllegalArgumentException {
        demand(isBetween(slack, 0, 50));
        book.ropeSlack = slack;
    }

    public int out(int knots, boolean in) {
        return in ? ropes.fewestOutAndIn(knots) : ropes.fewestOut(knots);
    }

    public int first(int knots) {
        return ropes.firstToOpen(knots);
    }

    public int tale(int n, int grows, int years) throws IllegalArgumentException {
        demand(isBetween(n, 0, 9999) && isBetween(grows, 0, 100) && isBetween(years, 0, 20));
        long number = n;
        for (int year = 0; year < years; year++) {
            number = Math.min(number + (number * grows + 99) / 100, MOST_TALE);
        }
        return (int) number;
    }

    public int cold(int doors, int degrees, int place) throws IllegalArgumentException {
        demand(isOfFirst(doors, PLACES) && isBetween(degrees, 0, 99) && isBetween(place, 0, PLACES - 1));
        int coldest = 0;
        for (int door = 0; door < PLACES; door++) {
            int apart = Math.abs(door - place);
            if (hasBit(doors, door)) {
                coldest = Math.max(coldest, degrees - 2 * Math.min(apart, PLACES - apart));
            }
        }
        return coldest;
    }

    public void image() {
        keptBook.become(book);
        isKept = true;
    }

    public boolean back() {
        if (!isKept) {
            return false;
        }
        book.become(keptBook);
        course.forget();
        return true;
    }

    public int count(int what) {
        switch (what) {
            case 0:
                return book.persons.size;
            case 1:
                return book.ruleCount;
            case 2:
                return book.wayCount;
            case 3:
                return book.things.size;
            case 4:
                return book.notes.size;
            case 5:
                return book.traps.size;
            case 6:
                return book.stories.size;
            case 7:
                return book.nights.size;
            case 8:
                return book.tellings.size;
            case 9:
                return book.knots.size;
            default:
                return NONE;
        }
    }

    private static void demand(boolean holds) {
        if (!holds) {
            throw new IllegalArgumentException("a number, the bits or the text are none");
        }
    }

    private static void demandRow(int row, int rows) {
        if (row < 0 || row >= rows) {
            throw new IndexOutOfBoundsException("there is no such one");
        }
    }

    private static void demandRoom(boolean hasRoom) {
        if (!hasRoom) {
            throw new UnsupportedOperationException("there are as many as there may be");
        }
    }

    private static void demandWhat(int what, int greatest) {
        if (what < 0 || what > greatest) {
            throw new NoSuchElementException("there is no such what");
        }
    }

    private static boolean isBetween(int number, int least, int greatest) {
        return number >= least && number <= greatest;
    }

    private static boolean isOfFirst(int bits, int many) {
        return (bits & ~firstBits(many)) == 0;
    }

    private static int firstBits(int many) {
        return (1 << many) - 1;
    }

    private static boolean hasBit(int bits, int bit) {
        return (bits >> bit & 1) == 1;
    }

    private void putNumber(int number) {
        for (int shift = 24; shift >= 0 && tapeSize < MOST_BYTES; shift -= 8) {
            tape[tapeSize] = (byte) (number >> shift);
            tapeSize++;
        }
    }

    private void reckonOdds(int nights) {
        for (int story = 0; story < book.stories.size; story++) {
            shares[story] = book.stories.get(story, Book.STORY_WEIGHT);
        }
        sharesToOdds();
        for (int night = 0; night < nights; night++) {
            for (int story = 0; story < book.stories.size; story++) {
                shares[story] = storyOdds[story] * allFactors(story, night);
            }
            sharesToOdds();
        }
    }

    private void sharesToOdds() {
        long together = 0;
        int greatest = 0;
        for (int story = 0; story < book.stories.size; story++) {
            together += shares[story];
            if (shares[story] > shares[greatest]) {
                greatest = story;
            }
        }
        if (together <= 0) {
            return;
        }
        int rest = ALL_ODDS;
        for (int story = 0; story < book.stories.size; story++) {
            storyOdds[story] = (int) (ALL_ODDS * shares[story] / together);
            rest -= storyOdds[story];
        }
        storyOdds[greatest] += rest;
    }

    private long allFactors(int story, int night) {
        int rule = book.nights.get(night, Book.NIGHT_RULE);
        int came = book.nights.get(night, Book.NIGHT_THINGS);
        int ways = book.stories.get(story, Book.STORY_WAYS);
        int helper = book.stories.get(story, Book.STORY_HELPER);
        boolean helped = helper != NONE && hasBit(book.nights.get(night, Book.NIGHT_THERE), helper);
        long product = 1;
        for (int thing = 0; thing < book.things.size; thing++) {
            if (course.canEver(rule, ways, helped, thing)) {
                product *= hasBit(came, thing) ? 7 : 3;
            } else {
                product *= hasBit(came, thing) ? 1 : 9;
            }
        }
        return product * trapFactors(story, night);
    }

    private long trapFactors(int story, int night) {
        int set = book.nights.get(night, Book.NIGHT_SET);
        int sprang = book.nights.get(night, Book.NIGHT_SPRANG);
        long product = 1;
        for (int trap = 0; trap < book.traps.size; trap++) {
            if (hasBit(set, trap)) {
                int often = springs(trap, story);
                product *= hasBit(sprang, trap) ? often : 10 - often;
            }
        }
        return product;
    }

    private int springs(int trap, int story) {
        boolean isUsed = hasBit(book.stories.get(story, Book.STORY_WAYS), book.traps.get(trap, Book.TRAP_WAY));
        return book.traps.get(trap, isUsed ? Book.TRAP_USED : Book.TRAP_NOT);
    }

    private int choicesWithAtLeast(int both, int there, int came) {
        int others = book.nights.size - came;
        int sum = 0;
        for (int many = both; many <= came; many++) {
            sum += choices(came, many) * choices(others, there - many);
        }
        return sum;
    }

    private static int choices(int of, int many) {
        if (many < 0 || many > of) {
            return 0;
        }
        int product = 1;
        for (int step = 1; step <= many; step++) {
            product = product * (of - many + step) / step;
        }
        return product;
    }

    private int knowersOn(int day, int beginners, int silent) {
        for (int person = 0; person < MOST_PERSONS; person++) {
            knowsSince[person] = hasBit(beginners, person) ? 0 : LAST_DAY + 1;
        }
        // Words reach each of the 8 first by way of at most 7 tellings, so that many rounds are enough.
        for (int round = 1; round < MOST_PERSONS; round++) {
            for (int telling = 0; telling < book.tellings.size; telling++) {
                if (book.tellings.get(telling, Book.TOLD_FROM) != silent) {
                    spread(telling);
                }
            }
        }
        int bits = 0;
        for (int person = 0; person < MOST_PERSONS; person++) {
            bits |= knowsSince[person] <= day ? 1 << person : 0;
        }
        return bits;
    }

    private void spread(int telling) {
        int from = book.tellings.get(telling, Book.TOLD_FROM);
        int to = book.tellings.get(telling, Book.TOLD_TO);
        int day = book.tellings.get(telling, Book.TOLD_DAY);
        if (knowsSince[from] <= day && knowsSince[to] > day) {
            knowsSince[to] = day;
        }
    }

    private int sources(int day) {
        int bits = 0;
        for (int person = 1; person < MOST_PERSONS; person++) {
            if (hasBit(book.beginners, person) && hasBit(knowersOn(day, 1 << person, NONE), 0)) {
                bits |= 1 << person;
            }
        }
        return bits;
    }

    private int neededTellers(int day) {
        if (!hasBit(knowersOn(day, book.beginners, NONE), 0)) {
            return 0;
        }
        int bits = 0;
        for (int person = 1; person < MOST_PERSONS; person++) {
            if (!hasBit(knowersOn(day, book.beginners, person), 0)) {
                bits |= 1 << person;
            }
        }
        return bits;
    }

    /** Rows of numbers, so many at most; what is not there counts 0. */
    private static final class Table {
        final int width;
        final int[] cells;
        int size;

        Table(int most, int columns) {
            width = columns;
            cells = new int[most * columns];
        }

        boolean hasRoom() {
            return (size + 1) * width <= cells.length;
        }

        int add(int a, int b, int c, int d, int e) {
            put(0, a);
            put(1, b);
            put(2, c);
            put(3, d);
            put(4, e);
            size++;
            return size - 1;
        }

        private void put(int column, int number) {
            int cell = size * width + column;
            if (column < width && cell < cells.length) {
                cells[cell] = number;
            }
        }

        int get(int row, int column) {
            boolean isThere = row >= 0 && row < size && column >= 0 && column < width;
            return isThere ? cells[row * width + column] : 0;
        }

        void become(Table other) {
            size = other.size;
            for (int cell = 0; cell < cells.length && cell < other.cells.length; cell++) {
                cells[cell] = other.cells[cell];
            }
        }
    }

    /** All that an IMAGE keeps. */
    private static final class Book {
        static final int PERSON_KNOWS = 0;
        static final int PERSON_TIRES = 1;
        static final int THING_HANDS = 0;
        static final int THING_FEET = 1;
        static final int THING_REACH = 2;
        static final int NOTE_THING = 0;
        static final int NOTE_SECOND = 1;
        static final int TRAP_WAY = 0;
        static final int TRAP_USED = 1;
        static final int TRAP_NOT = 2;
        static final int STORY_WEIGHT = 0;
        static final int STORY_WAYS = 1;
        static final int STORY_HELPER = 2;
        static final int NIGHT_RULE = 0;
        static final int NIGHT_THERE = 1;
        static final int NIGHT_THINGS = 2;
        static final int NIGHT_SET = 3;
        static final int NIGHT_SPRANG = 4;
        static final int TOLD_FROM = 0;
        static final int TOLD_TO = 1;
        static final int TOLD_DAY = 2;
        static final int KNOT_OPENING = 0;
        static final int KNOT_TYING = 1;
        static final int KNOT_NEED = 2;
        static final int KNOT_GIVES = 3;

        final Table persons = new Table(MOST_PERSONS, 2);
        final Rule[] rules = new Rule[MOST_RULES];
        int ruleCount;
        final Way[] ways = new Way[MOST_WAYS];
        int wayCount;
        final Table things = new Table(6, 3);
        final Table notes = new Table(10, 2);
        final Table traps = new Table(4, 3);
        final Table stories = new Table(MOST_STORIES, 3);
        final Table nights = new Table(12, 5);
        final Table tellings = new Table(20, 3);
        final Table knots = new Table(MOST_KNOTS, 4);
        int beginners;
        int ropeSlack;

        /** Where no RULE or WAY is yet stands one without LINES, so that none is ever null. */
        Book() {
            for (int rule = 0; rule < MOST_RULES; rule++) {
                rules[rule] = new Rule(new int[0]);
            }
            for (int way = 0; way < MOST_WAYS; way++) {
                ways[way] = new Way(0, 1, 0, new int[0]);
            }
        }

        int addRule(Rule rule) {
            rules[ruleCount] = rule;
            ruleCount++;
            return ruleCount - 1;
        }

        int addWay(Way way) {
            ways[wayCount] = way;
            wayCount++;
            return wayCount - 1;
        }

        int allWays() {
            return firstBits(wayCount);
        }

        /** The sets of free LIMBS with which a THING can be done, if these WAYS are used. */
        int setsFor(int thing, int usedWays) {
            int needed = things.get(thing, THING_REACH);
            if (needed > 0 && greatestReach(usedWays) < needed) {
                return 0;
            }
            return SETS_WITH_HANDS[things.get(thing, THING_HANDS)] & SETS_WITH_FEET[things.get(thing, THING_FEET)];
        }

        private int greatestReach(int usedWays) {
            int greatest = 0;
            for (int way = 0; way < wayCount; way++) {
                if (hasBit(usedWays, way)) {
                    greatest = Math.max(greatest, ways[way].reach);
                }
            }
            return greatest;
        }

        void become(Book other) {
            persons.become(other.persons);
            things.become(other.things);
            notes.become(other.notes);
            traps.become(other.traps);
            stories.become(other.stories);
            nights.become(other.nights);
            tellings.become(other.tellings);
            knots.become(other.knots);
            ruleCount = other.ruleCount;
            wayCount = other.wayCount;
            beginners = other.beginners;
            ropeSlack = other.ropeSlack;
            // RULES and WAYS never change once they are read, so that both books may share them.
            for (int rule = 0; rule < MOST_RULES; rule++) {
                rules[rule] = other.rules[rule];
            }
            for (int way = 0; way < MOST_WAYS; way++) {
                ways[way] = other.ways[way];
            }
        }
    }

    /** The LINES of a RULE, in three numbers each: what it is, and its two numbers. */
    private static final class Rule {
        static final int PER_LINE = 3;

        final int[] lines;

        Rule(int[] numbers) {
            lines = numbers;
        }

        int lineCount() {
            return lines.length / PER_LINE;
        }
    }

    /** What a WAY frees and takes, and its need LINES as steps for a small machine. */
    private static final class Way {
        final int frees;
        final int take;
        final int reach;
        final int[] steps;

        Way(int freeLimbs, int seconds, int reachBy, int[] needSteps) {
            frees = freeLimbs;
            take = seconds;
            reach = reachBy;
            steps = needSteps;
        }

        /** The sets of LIMBS in which one that it frees is not free yet. */
        int setsItChanges() {
            int unchanged = ALL_SETS;
            for (int limb = 0; limb < LIMBS; limb++) {
                if (hasBit(frees, limb)) {
                    unchanged &= SETS_WITH_LIMB[limb];
                }
            }
            return ALL_SETS & ~unchanged;
        }

        /** What becomes of sets of LIMBS when it is through. */
        int freed(int sets) {
            int then = sets;
            for (int limb = 0; limb < LIMBS; limb++) {
                if (hasBit(frees, limb)) {
                    int without = then & ~SETS_WITH_LIMB[limb];
                    then = then & SETS_WITH_LIMB[limb] | without << (1 << limb);
                }
            }
            return then;
        }
    }

    /** What the words, numbers and signs of a text are called, and the steps that are made of them. */
    private static final class Token {
        static final int END = 0;
        static final int OTHER = 1;
        static final int NUMBER = 2;
        static final int TURN = 3;

        static final int FIRST_SIGN = 4;
        static final String SIGNS = ";()+<>";
        static final int SEMICOLON = 4;
        static final int OPEN = 5;
        static final int CLOSE = 6;
        static final int PLUS = 7;
        static final int LESS = 8;
        static final int MORE = 9;

        static final int FIRST_WORD = 10;
        static final String WORDS = "hold by tie lit to last free take reach need or and not dark helped loose held tied tired second limbs knows slack ";
        static final int HOLD = 10;
        static final int BY = 11;
        static final int TIE = 12;
        static final int LIT = 13;
        static final int TO = 14;
        static final int LAST = 15;
        static final int FREE = 16;
        static final int TAKE = 17;
        static final int REACH = 18;
        static final int NEED = 19;
        static final int OR = 20;
        static final int AND = 21;
        static final int NOT = 22;
        static final int DARK = 23;
        static final int HELPED = 24;
        static final int LOOSE = 25;
        static final int HELD = 26;
        static final int TIED = 27;
        static final int TIRED = 28;
        static final int SECOND = 29;
        static final int LIMB_COUNT = 30;
        static final int KNOWS = 31;
        static final int SLACK = 32;

        static int ofWord(byte[] text, int start, int behind) {
            int token = FIRST_WORD;
            int from = 0;
            for (int place = 0; place < WORDS.length(); place++) {
                if (WORDS.charAt(place) == ' ') {
                    if (isSame(text, start, behind, from, place)) {
                        return token;
                    }
                    token++;
                    from = place + 1;
                }
            }
            return OTHER;
        }

        private static boolean isSame(byte[] text, int start, int behind, int from, int to) {
            if (behind - start != to - from) {
                return false;
            }
            for (int place = start; place < behind; place++) {
                if (text[place] != WORDS.charAt(from + place - start)) {
                    return false;
                }
            }
            return true;
        }

        static int ofSign(int sign) {
            int place = SIGNS.indexOf((char) (sign & 255));
            return place < 0 ? OTHER : FIRST_SIGN + place;
        }
    }

    /** Splits a text into words, numbers and signs. */
    private static final class Scanner {
        private static final int TOO_MANY_DIGITS = 1000;

        // One more than there are bytes: the END has its place, too.
        final int[] tokens = new int[MOST_BYTES + 1];
        final int[] starts = new int[MOST_BYTES + 1];
        final int[] numbers = new int[MOST_BYTES + 1];
        private int size;

        void scan(byte[] text, int length) {
            size = 0;
            int place = 0;
            while (place < length) {
                int behind = place + 1;
                if (isLetter(text[place])) {
                    while (behind < length && isLetter(text[behind])) {
                        behind++;
                    }
                    put(Token.ofWord(text, place, behind), place, 0);
                } else if (isDigit(text[place])) {
                    while (behind < length && isDigit(text[behind])) {
                        behind++;
                    }
                    put(Token.NUMBER, place, numberOf(text, place, behind));
                } else if (text[place] != ' ') {
                    put(Token.ofSign(text[place]), place, 0);
                }
                place = behind;
            }
            put(Token.END, length, 0);
        }

        private void put(int token, int start, int number) {
            if (size < tokens.length) {
                tokens[size] = token;
                starts[size] = start;
                numbers[size] = number;
                size++;
            }
        }

        private static boolean isLetter(int sign) {
            return sign >= 'a' && sign <= 'z';
        }

        private static boolean isDigit(int sign) {
            return sign >= '0' && sign <= '9';
        }

        private static int numberOf(byte[] text, int start, int behind) {
            if (behind - start > 3) {
                return TOO_MANY_DIGITS;
            }
            int number = 0;
            for (int place = start; place < behind; place++) {
                number = number * 10 + text[place] - '0';
            }
            return number;
        }
    }

    /** Reads RULES and WAYS; what cannot stand where it does leaves its begin in wrong. */
    private static final class Reader {
        private static final int MOST_DEEP = 6;
        private static final int MOST_STEPS = 2 * MOST_BYTES;
        static final int STEP = 1024;

        private final Scanner scanner = new Scanner();
        private int next;
        int wrong = NONE;
        private final int[] lines = new int[Rule.PER_LINE * MOST_LINES];
        private int lineCells;
        private int frees;
        private int take;
        private int reach;
        private final int[] steps = new int[MOST_STEPS];
        private int stepCount;

        /** Whether a text is right; if it is, it can be had from ruleRead() or wayRead(). */
        boolean readLines(byte[] text, int length, boolean ofRule) {
            scanner.scan(text, length);
            startAnew();
            if (token() == Token.END) {
                return true;
            }
            for (int line = 0; line < MOST_LINES; line++) {
                boolean isRead = ofRule ? readRuleLine() : readWayLine();
                if (!isRead) {
                    return false;
                }
                if (token() == Token.END) {
                    return true;
                }
                if (!pass(Token.SEMICOLON)) {
                    return false;
                }
            }
            return refuse();
        }

        Rule ruleRead() {
            return new Rule(Arrays.copyOf(lines, lineCells));
        }

        Way wayRead() {
            return new Way(frees, take, reach, Arrays.copyOf(steps, stepCount));
        }

        private void startAnew() {
            next = 0;
            wrong = NONE;
            lineCells = 0;
            frees = 0;
            take = 1;
            reach = 0;
            stepCount = 0;
        }

        private int token() {
            return scanner.tokens[next];
        }

        private boolean refuse() {
            wrong = scanner.starts[next];
            return false;
        }

        /** The END is never passed, so that next stays within the tokens. */
        private boolean pass(int token) {
            if (token() != token) {
                return refuse();
            }
            next++;
            return true;
        }

        /** NONE, if there is no such NUMBER here. */
        private int number(int least, int greatest) {
            int number = scanner.tokens[next] == Token.NUMBER ? scanner.numbers[next] : NONE;
            if (number < least || number > greatest) {
                wrong = scanner.starts[next];
                return NONE;
            }
            next++;
            return number;
        }

        private boolean readRuleLine() {
            switch (token()) {
                case Token.HOLD:
                    next++;
                    return readPair(Token.HOLD, LIMBS - 1, Token.BY, 1, MOST_PERSONS - 1);
                case Token.TIE:
                    next++;
                    return readPair(Token.TIE, LIMBS - 1, Token.NUMBER, 0, 99);
                case Token.LIT:
                    next++;
                    return readPair(Token.LIT, LAST_SECOND, Token.TO, 0, LAST_SECOND);
                case Token.LAST:
                    next++;
                    return keepLine(Token.LAST, number(1, LAST_SECOND), 0);
                default:
                    return refuse();
            }
        }

        /** Two NUMBERS with a word between them (NUMBER for between: none). */
        private boolean readPair(int kind, int firstGreatest, int between, int least, int greatest) {
            int number = number(0, firstGreatest);
            if (number == NONE || between != Token.NUMBER && !pass(between)) {
                return false;
            }
            int secondLeast = kind == Token.LIT ? number : least;
            return keepLine(kind, number, number(secondLeast, greatest));
        }

        private boolean keepLine(int kind, int number, int other) {
            if (number == NONE || other == NONE || lineCells + Rule.PER_LINE > lines.length) {
                return false;
            }
            lines[lineCells] = kind;
            lines[lineCells + 1] = number;
            lines[lineCells + 2] = other;
            lineCells += Rule.PER_LINE;
            return true;
        }

        private boolean readWayLine() {
            switch (token()) {
                case Token.FREE:
                    next++;
                    int limb = number(0, LIMBS - 1);
                    frees |= limb == NONE ? 0 : 1 << limb;
                    return limb != NONE;
                case Token.TAKE:
                    next++;
                    take = number(1, 60);
                    return take != NONE;
                case Token.REACH:
                    next++;
                    reach = number(1, 9);
                    return reach != NONE;
                case Token.NEED:
                    next++;
                    // Joins the LINE to those before it: all need LINES count.
                    return readCondition(0) && keepStep(Token.AND, 0);
                default:
                    return refuse();
            }
        }

        private boolean keepStep(int token, int number) {
            if (number == NONE || stepCount >= steps.length) {
                return false;
            }
            steps[stepCount] = token * STEP + number;
            stepCount++;
            return true;
        }

        /** Leaves its steps in the order in which a stack wants them, an or behind all ands of its right side. */
        private boolean readCondition(int depth) {
            boolean isRead = readAtom(depth);
            boolean orWaits = false;
            for (int more = 0; more < MOST_BYTES && isRead; more++) {
                int joint = token();
                if (joint != Token.AND && joint != Token.OR) {
                    break;
                }
                next++;
                if (joint == Token.OR) {
                    isRead = (!orWaits || keepStep(Token.OR, 0)) && readAtom(depth);
                    orWaits = true;
                } else {
                    isRead = readAtom(depth) && keepStep(Token.AND, 0);
                }
            }
            return isRead && (!orWaits || keepStep(Token.OR, 0));
        }

        private boolean readAtom(int depth) {
            int token = token();
            switch (token) {
                case Token.NOT:
                    if (depth >= MOST_DEEP) {
                        return refuse();
                    }
                    next++;
                    return readAtom(depth + 1) && keepStep(Token.NOT, 0);
                case Token.OPEN:
                    if (depth >= MOST_DEEP) {
                        return refuse();
                    }
                    next++;
                    return readCondition(depth + 1) && pass(Token.CLOSE);
                case Token.DARK:
                case Token.HELPED:
                    next++;
                    return keepStep(token, 0);
                case Token.LOOSE:
                case Token.HELD:
                case Token.TIED:
                case Token.TIRED:
                    next++;
                    return keepStep(token, number(0, LIMBS - 1));
                default:
                    return readComparison();
            }
        }

        private boolean readComparison() {
            if (!readSum()) {
                return false;
            }
            int sign = token();
            if (sign != Token.LESS && sign != Token.MORE) {
                return refuse();
            }
            next++;
            return keepStep(Token.TURN, 0) && readSum() && keepStep(sign, 0);
        }

        private boolean readSum() {
            for (int part = 0; part < MOST_BYTES; part++) {
                int token = token();
                int number = 0;
                if (token == Token.NUMBER) {
                    number = number(0, 999);
                } else if (token == Token.KNOWS || token == Token.SLACK) {
                    next++;
                    number = number(0, LIMBS - 1);
                } else if (token == Token.SECOND || token == Token.LIMB_COUNT) {
                    next++;
                } else {
                    return refuse();
                }
                if (!keepStep(token, number)) {
                    return false;
                }
                if (token() != Token.PLUS) {
                    return true;
                }
                next++;
            }
            return refuse();
        }
    }

    /** A RULE as it binds the LIMBS with the PERSONS that are there now. */
    private static final class Sitting {
        private static final int LAST_WITHOUT = 120;
        private static final int SLACK_WITHOUT = 99;
        // At each of 7 depths an or and an and may wait for their right side.
        private static final int MOST_WAITING = 24;

        int last;
        int held;
        int tied;
        final int[] lit = new int[SECONDS];
        private final int[] holderKnows = new int[LIMBS];
        private final int[] holderTires = new int[LIMBS];
        private final int[] tieSlack = new int[LIMBS];
        private final int[] waiting = new int[MOST_WAITING];
        // Ahead of this second setsThatMeet would answer as it did last, so that it need not be asked there.
        int sameUntil;

        /** without: a LINE that does not count; NONE. */
        void settle(Rule rule, int without, Table persons) {
            last = LAST_WITHOUT;
            held = 0;
            tied = 0;
            Arrays.fill(lit, 0);
            Arrays.fill(holderKnows, 0);
            Arrays.fill(holderTires, 0);
            Arrays.fill(tieSlack, SLACK_WITHOUT);
            for (int line = 0; line < rule.lineCount(); line++) {
                if (line != without) {
                    int cell = line * Rule.PER_LINE;
                    settleLine(rule.lines[cell], rule.lines[cell + 1], rule.lines[cell + 2], persons);
                }
            }
        }

        private void settleLine(int kind, int number, int other, Table persons) {
            switch (kind) {
                case Token.HOLD:
                    held |= 1 << number;
                    holderKnows[number] = persons.get(other, Book.PERSON_KNOWS);
                    holderTires[number] = persons.get(other, Book.PERSON_TIRES);
                    break;
                case Token.TIE:
                    tied |= 1 << number;
                    tieSlack[number] = other;
                    break;
                case Token.LIT:
                    for (int second = number; second < other; second++) {
                        lit[second] = 1;
                    }
                    break;
                default:
                    last = number;
                    break;
            }
        }

        int litSeconds() {
            int many = 0;
            for (int second = 0; second < last; second++) {
                many += lit[second];
            }
            return many;
        }

        /** The sets of free LIMBS with which all need LINES of a WAY hold at a second. */
        int setsThatMeet(Way way, int second, boolean helped) {
            int sum = 0;
            int perLimb = 0;
            int perSecond = 0;
            int top = 0;
            waiting[0] = ALL_SETS;
            sameUntil = SECONDS;
            for (int step : way.steps) {
                int token = step / Reader.STEP;
                int number = step % Reader.STEP;
                if (token == Token.LESS || token == Token.MORE) {
                    top = Math.min(top + 1, MOST_WAITING - 1);
                    int sign = token == Token.LESS ? 1 : -1;
                    waiting[top] = setsAboveZero(sign * sum, sign * perLimb, sign * perSecond, second);
                    sum = 0;
                    perLimb = 0;
                    perSecond = 0;
                } else if (token == Token.TURN) {
                    sum = -sum;
                    perLimb = -perLimb;
                    perSecond = -perSecond;
                } else if (token == Token.LIMB_COUNT) {
                    perLimb++;
                } else if (token == Token.NOT) {
                    waiting[top] ^= ALL_SETS;
                } else if (token == Token.AND || token == Token.OR) {
                    top = Math.max(top - 1, 0);
                    int right = waiting[top + 1];
                    waiting[top] = token == Token.AND ? waiting[top] & right : waiting[top] | right;
                } else if (token == Token.HELPED) {
                    top = Math.min(top + 1, MOST_WAITING - 1);
                    waiting[top] = helped ? ALL_SETS : 0;
                } else if (isTag(token)) {
                    top = Math.min(top + 1, MOST_WAITING - 1);
                    waiting[top] = setsOfTag(token, number, second);
                } else {
                    sum += partOf(token, number, second);
                    perSecond += token == Token.SECOND ? 1 : 0;
                }
            }
            return waiting[0];
        }

        private static boolean isTag(int token) {
            return token >= Token.DARK && token <= Token.TIRED;
        }

        private int setsOfTag(int token, int limb, int second) {
            boolean holds;
            switch (token) {
                case Token.LOOSE:
                    return SETS_WITH_LIMB[limb];
                case Token.DARK:
                    holds = lit[second] == 0;
                    sameUntil = litTurns(second);
                    break;
                case Token.HELD:
                    holds = hasBit(held, limb);
                    break;
                case Token.TIED:
                    holds = hasBit(tied, limb);
                    break;
                default:
                    holds = hasBit(held, limb) && holderTires[limb] <= second;
                    if (hasBit(held, limb) && !holds) {
                        sameUntil = Math.min(sameUntil, holderTires[limb]);
                    }
                    break;
            }
            return holds ? ALL_SETS : 0;
        }

        private int litTurns(int second) {
            int then = second + 1;
            while (then < sameUntil && lit[then] == lit[second]) {
                then++;
            }
            return then;
        }

        private int partOf(int token, int number, int second) {
            switch (token) {
                case Token.SECOND:
                    return second;
                case Token.KNOWS:
                    return holderKnows[number];
                case Token.SLACK:
                    return tieSlack[number];
                default:
                    return number;
            }
        }

        /** Where a sum is above 0 that has so much more for each free LIMB; it grows by so much each second. */
        private int setsAboveZero(int sum, int perLimb, int perSecond, int second) {
            int sets = 0;
            for (int size = 0; size <= LIMBS; size++) {
                int sumOfSize = sum + perLimb * size;
                sets |= sumOfSize > 0 ? SETS_OF_SIZE[size] : 0;
                sameUntil = Math.min(sameUntil, second + secondsToTurn(sumOfSize, perSecond));
            }
            return sets;
        }

        /** How many seconds later a sum comes above 0, or is there no more. */
        private static int secondsToTurn(int sum, int perSecond) {
            if (sum > 0 && perSecond < 0) {
                return (sum - perSecond - 1) / -perSecond;
            }
            if (sum <= 0 && perSecond > 0) {
                return -sum / perSecond + 1;
            }
            return SECONDS;
        }
    }

    /** Goes all COURSES by a RULE at once: for each second the sets of LIMBS that can be free then. */
    private static final class Course {
        private final Book book;
        final Sitting sitting = new Sitting();
        private final int[] startSets = new int[MOST_WAYS * SECONDS];
        private final int[] goingSets = new int[MOST_WAYS * SECONDS];
        private final int[] throughBlock = new int[MOST_WAYS];
        private final int[] allowedSets = new int[SECONDS];
        private final int[] sets = new int[SECONDS];
        // By RULE, WAYS and helped; 0 where it is not known yet (no set at all is never true).
        private final int[] everSets = new int[MOST_RULES * (1 << MOST_WAYS) * 2];

        Course(Book ofBook) {
            book = ofBook;
        }

        /** What is known of COURSES may have changed. */
        void forget() {
            Arrays.fill(everSets, 0);
        }

        /** Readies a RULE, but for one LINE (or NONE), and WAYS for walks by these or some of them. */
        void prepare(int rule, int without, int ways, boolean helped) {
            sitting.settle(book.rules[rule], without, book.persons);
            allowUnseen();
            for (int number = 0; number < book.wayCount; number++) {
                int changed = hasBit(ways, number) ? book.ways[number].setsItChanges() : 0;
                int starts = 0;
                int sameUntil = changed == 0 ? SECONDS : 0;
                for (int second = 0; second < sitting.last; second++) {
                    if (second >= sameUntil) {
                        starts = changed & sitting.setsThatMeet(book.ways[number], second, helped);
                        sameUntil = sitting.sameUntil;
                    }
                    startSets[number * SECONDS + second] = starts;
                }
            }
        }

        boolean bringsAllNotes(int ways) {
            allowUnseen();
            for (int note = 0; note < book.notes.size; note++) {
                int second = book.notes.get(note, Book.NOTE_SECOND);
                if (second > sitting.last) {
                    return false;
                }
                allowedSets[second] &= book.setsFor(book.notes.get(note, Book.NOTE_THING), ways);
            }
            walk(ways);
            return sets[sitting.last] != 0;
        }

        private void allowUnseen() {
            for (int second = 0; second <= sitting.last; second++) {
                boolean isBare = sitting.lit[second] != 0 || second == sitting.last;
                allowedSets[second] = isBare ? EMPTY_SET : ALL_SETS;
            }
        }

        /** Whatever NOTES there are, if it comes behind prepare(). */
        void walk(int ways) {
            sets[0] = EMPTY_SET & allowedSets[0];
            for (int second = 0; second < sitting.last; second++) {
                int then = withAllTheirParts(sets[second]);
                for (int number = 0; number < book.wayCount; number++) {
                    if (hasBit(ways, number)) {
                        then |= freedBehind(number, second);
                    }
                }
                sets[second + 1] = then & allowedSets[second + 1];
            }
        }

        /** Nothing, or some LIMBS that are free no more. */
        private static int withAllTheirParts(int ofSets) {
            int parts = ofSets;
            if (parts == EMPTY_SET) {
                return parts;
            }
            for (int limb = 0; limb < LIMBS; limb++) {
                parts |= (parts & SETS_WITH_LIMB[limb]) >> (1 << limb);
            }
            return parts;
        }

        /** What is free behind a second by a WAY of which that is the last one. */
        private int freedBehind(int number, int second) {
            Way way = book.ways[number];
            // Doing nothing is a COURSE, too: a set that was there at the begin and is allowed since is there now.
            int through = goneThrough(number, second, Math.max(way.take, 1));
            return through == 0 ? 0 : way.freed(through);
        }

        /**
         * The sets with which a WAY could go at each of so many seconds up to this one. All seconds are cut into
         * blocks of so many, so that those asked for are the end of one block and the begin of the next.
         */
        private int goneThrough(int number, int second, int take) {
            int row = number * SECONDS;
            int going = sets[second] & startSets[row + second];
            int place = second % take;
            throughBlock[number] = place == 0 ? going : throughBlock[number] & going;
            goingSets[row + second] = going;
            if (place < take - 1) {
                return second < take ? 0 : throughBlock[number] & goingSets[row + second - take + 1];
            }
            // The block is whole: from now on each of its seconds tells what goes on from there to its end.
            for (int before = second - 1; before > second - take; before--) {
                goingSets[row + before] &= goingSets[row + before + 1];
            }
            return throughBlock[number];
        }

        int firstSecondOf(int wantedSets) {
            for (int second = 0; second <= sitting.last; second++) {
                if ((sets[second] & wantedSets) != 0) {
                    return second;
                }
            }
            return NONE;
        }

        int limbsAt(int second) {
            int limbs = 0;
            if (second > sitting.last) {
                return limbs;
            }
            for (int set = 0; set < 1 << LIMBS; set++) {
                limbs |= hasBit(sets[second], set) ? set : 0;
            }
            return limbs;
        }

        /** Whether a THING has an EARLIEST. */
        boolean canEver(int rule, int ways, boolean helped, int thing) {
            int usedWays = ways & book.allWays();
            int key = (rule * (1 << MOST_WAYS) + usedWays) * 2 + (helped ? 1 : 0);
            if (everSets[key] == 0) {
                prepare(rule, NONE, usedWays, helped);
                walk(usedWays);
                for (int second = 0; second <= sitting.last; second++) {
                    everSets[key] |= sets[second];
                }
            }
            return (everSets[key] & book.setsFor(thing, usedWays)) != 0;
        }
    }

    /** Opens and ties KNOTS, with the open ones as bits. */
    private static final class Ropes {
        private static final int STATES = 1 << MOST_KNOTS;
        private static final int FAR = 1000000;

        private final Book book;
        private final int[] seconds = new int[STATES];
        private final int[] slacks = new int[STATES];

        Ropes(Book ofBook) {
            book = ofBook;
        }

        int fewestOut(int wanted) {
            reckonOut(wanted);
            return seconds[0] < FAR ? seconds[0] : NONE;
        }

        int fewestOutAndIn(int wanted) {
            reckonSlacks();
            Arrays.fill(seconds, FAR);
            seconds[0] = 0;
            shorten();
            // The way home begins where all wanted ones are open; elsewhere one has to come there first.
            for (int open = 0; open < STATES; open++) {
                seconds[open] = hasAll(open, wanted) ? seconds[open] : FAR;
            }
            shorten();
            return seconds[0] < FAR ? seconds[0] : NONE;
        }

        int firstToOpen(int wanted) {
            reckonOut(wanted);
            if (seconds[0] == 0 || seconds[0] >= FAR) {
                return NONE;
            }
            for (int knot = 0; knot < book.knots.size; knot++) {
                int by = book.knots.get(knot, Book.KNOT_OPENING) + seconds[1 << knot];
                if (givesWay(knot, 0) && by == seconds[0]) {
                    return knot;
                }
            }
            return NONE;
        }

        private void reckonOut(int wanted) {
            reckonSlacks();
            for (int open = 0; open < STATES; open++) {
                seconds[open] = hasAll(open, wanted) ? 0 : FAR;
            }
            shorten();
        }

        private void reckonSlacks() {
            slacks[0] = book.ropeSlack;
            for (int open = 1; open < STATES; open++) {
                int withoutOne = open & open - 1;
                int gives = book.knots.get(Integer.numberOfTrailingZeros(open), Book.KNOT_GIVES);
                slacks[open] = slacks[withoutOne] + gives;
            }
        }

        private boolean hasAll(int open, int wanted) {
            return (wanted & firstBits(book.knots.size) & ~open) == 0;
        }

        /** Lets each state have the fewest seconds by way of any other one. */
        private void shorten() {
            boolean isShorter = true;
            for (int round = 0; round < STATES && isShorter; round++) {
                isShorter = false;
                for (int open = 0; open < 1 << book.knots.size; open++) {
                    for (int knot = 0; knot < book.knots.size; knot++) {
                        int by = secondsBy(open, knot);
                        if (by < seconds[open]) {
                            seconds[open] = by;
                            isShorter = true;
                        }
                    }
                }
            }
        }

        private int secondsBy(int open, int knot) {
            int bit = 1 << knot;
            if (!givesWay(knot, open & ~bit)) {
                return FAR;
            }
            boolean isOpen = hasBit(open, knot);
            return book.knots.get(knot, isOpen ? Book.KNOT_TYING : Book.KNOT_OPENING) + seconds[open ^ bit];
        }

        private boolean givesWay(int knot, int openOthers) {
            return slacks[openOthers] >= book.knots.get(knot, Book.KNOT_NEED);
        }
    }
}
