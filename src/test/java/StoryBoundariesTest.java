import java.util.function.Consumer;

/** Boundary cases of TRAPS, STORIES and NIGHTS: promises 20 to 26, and ==== 3. */
public final class StoryBoundariesTest {
    private static void noRow(String what, Consumer<DarkSitting> call) {
        Trial.refused(what, Trial.INDEX, Trial::some, call);
        Trial.refused(what + ", and it is full", Trial.INDEX, Trial::full, call);
    }

    private static void odds(String what, DarkSitting x, int... due) {
        int sum = 0;
        for (int story = 0; story < due.length; story++) {
            Trial.is(what + ", story " + story, due[story], x.odds(story));
            sum += x.odds(story);
        }
        Trial.is(what + ", together", 10000, sum);
    }

    private static DarkSitting stories(int... weights) {
        DarkSitting x = new DarkSitting();
        for (int weight : weights) {
            x.story(weight, 0, Trial.NONE);
        }
        return x;
    }

    /** "each 10000 times its WEIGHT by all together, rounded down, the rest to that whose WEIGHT is the greatest". */
    private static void promise22Weights() {
        odds("promise 22: one alone", stories(1), 10000);
        odds("promise 22: one alone of the greatest weight", stories(99), 10000);
        odds("promise 22: two of one weight", stories(99, 99), 5000, 5000);
        odds("promise 22: the least and the greatest", stories(1, 99), 100, 9900);
        odds("promise 22: the greatest and the least", stories(99, 1), 9900, 100);
        odds("promise 22: five of one weight", stories(7, 7, 7, 7, 7), 2000, 2000, 2000, 2000, 2000);
        odds("promise 22: of several the first has the rest", stories(1, 1, 1), 3334, 3333, 3333);
        odds("promise 22: the greatest has the rest", stories(1, 2), 3333, 6667);
        odds("promise 22: the last is the greatest", stories(2, 2, 3), 2857, 2857, 4286);
        odds("promise 22: the first of two that are the greatest", stories(1, 3, 3), 1428, 4287, 4285);
        odds("promise 22: the greatest rest", stories(1, 1, 1, 1, 3), 1428, 1428, 1428, 1428, 4288);
        odds("promise 22: one below a whole number", stories(99, 99, 99, 99, 1), 2496, 2493, 2493, 2493, 25);
        odds("promise 22: nothing is left over", stories(50, 25, 25), 5000, 2500, 2500);
    }

    /** A hand by way 0; a trap of that way, one in ten if it is used, nine if not. */
    private static DarkSitting table() {
        DarkSitting x = new DarkSitting();
        Trial.rule(x, "last 9");
        Trial.way(x, "free 0;take 3");
        x.thing(1, 0, 0);
        x.trap(0, 1, 9);
        return x;
    }

    /** "7 if it came, 3 if not; else 1 if it came, 9 if not"; how often, "10 less that, if not"; "else ... the other number". */
    private static void promise24Each() {
        DarkSitting x = table();
        x.story(1, 1, Trial.NONE);
        x.story(1, 0, Trial.NONE);
        int[][] nights = {{0, 0, 0}, {1, 0, 0}, {0, 1, 0}, {0, 1, 1}, {1, 1, 0}, {1, 1, 1}};
        long[] by = {3, 7, 3 * 9, 3, 7 * 9, 7};
        long[] without = {9, 1, 9, 9 * 9, 1, 9};
        for (int night = 0; night < nights.length; night++) {
            x.night(0, 255, nights[night][0], nights[night][1], nights[night][2]);
            Trial.is("promise 24: night " + night, by[night], x.factor(0, night));
            Trial.is("promise 24: night " + night + " without the way", without[night], x.factor(1, night));
        }
        DarkSitting y = new DarkSitting();
        Trial.rule(y, "");
        y.story(1, 0, Trial.NONE);
        y.night(0, 0, 0, 0, 0);
        Trial.is("promise 24: no things and no traps", 1, y.factor(0, 0));
    }

    /** All six THINGS and all four TRAPS at once: the greatest product is beyond an int. */
    private static void promise24Greatest() {
        DarkSitting x = new DarkSitting();
        Trial.rule(x, "last 9");
        Trial.way(x, "free 0");
        for (int k = 0; k < 6; k++) {
            x.thing(1, 0, 0);
        }
        for (int k = 0; k < 4; k++) {
            x.trap(0, 9, 1);
        }
        x.story(99, 1, Trial.NONE);
        x.story(1, 0, Trial.NONE);
        x.night(0, 0, 0, 15, 0);
        x.night(0, 0, 63, 15, 15);
        x.night(0, 0, 63, 15, 0);
        Trial.is("promise 24: the greatest of all", 3486784401L, x.factor(1, 0));
        Trial.is("promise 24: three each, one each", 729, x.factor(0, 0));
        Trial.is("promise 24: seven and nine each", 117649L * 6561, x.factor(0, 1));
        Trial.is("promise 24: the least of all", 1, x.factor(1, 1));
        Trial.is("promise 24: sevens alone", 117649, x.factor(0, 2));
        Trial.is("promise 24: nines of the traps alone", 6561, x.factor(1, 2));
        // 9900 * 729 = 7217100 to 100 * 3486784401 = 348678440100.
        Trial.is("promise 22: the greatest product", 10000, x.oddsBy(1, 1));
        Trial.is("promise 22: next to it nothing is left", 0, x.oddsBy(0, 1));
        Trial.is("promise 22: naught stays naught", 0, x.oddsBy(0, 3));
        Trial.is("promise 22: and all stays all", 10000, x.odds(1));
    }

    /** Twelve NIGHTS of the greatest products for all five STORIES. */
    private static void promise22Products() {
        DarkSitting x = new DarkSitting();
        Trial.rule(x, "last 9");
        Trial.way(x, "free 0;need helped");
        for (int k = 0; k < 6; k++) {
            x.thing(1, 0, 0);
        }
        for (int k = 0; k < 4; k++) {
            x.trap(0, 1, 1);
        }
        for (int k = 0; k < 5; k++) {
            x.story(99 - k, 1, k == 0 ? 7 : Trial.NONE);
        }
        for (int k = 0; k < 12; k++) {
            x.night(0, k == 11 ? 128 : 127, 0, 15, 0);
            Trial.is("promise 24: night " + k, k == 11 ? 729L * 6561 : 3486784401L, x.factor(0, k));
        }
        // Weights 99 to 95 of 485: 2041.2, 2020.6, 2000, 1979.3, 1958.7 and a rest of 2; as all factors are one, so they stay.
        for (int nights = 0; nights < 12; nights++) {
            Trial.is("promise 23: the first, by nights " + nights, 2043, x.oddsBy(0, nights));
            Trial.is("promise 23: the last, by nights " + nights, 1958, x.oddsBy(4, nights));
        }
        // 2043 / 729 = 2.8 to 2020, 2000, 1979 and 1958: of 7959.8 that is 3.5, 2537.7, 2512.6, 2486.2, 2459.8.
        odds("promise 22: helped on the last night alone", x, 3, 2537 + 3, 2512, 2486, 2459);
    }

    /** "it is helped if its helper was there": the first and the last bit that a helper can be. */
    private static void promise24Helpers() {
        DarkSitting x = new DarkSitting();
        Trial.rule(x, "last 9");
        Trial.way(x, "free 0;need helped");
        x.thing(1, 0, 0);
        x.story(1, 1, 1);
        x.story(1, 1, 7);
        x.story(1, 1, Trial.NONE);
        int[] there = {0, 1, 2, 128, 130, 255, 125};
        for (int night = 0; night < there.length; night++) {
            x.night(0, there[night], 1, 0, 0);
            Trial.is("promise 24: helper 1, there " + there[night], (there[night] & 2) != 0 ? 7 : 1, x.factor(0, night));
            Trial.is("promise 24: helper 7, there " + there[night], (there[night] & 128) != 0 ? 7 : 1, x.factor(1, night));
            Trial.is("promise 24: no helper, there " + there[night], 1, x.factor(2, night));
        }
    }

    /** "it has an EARLIEST by RULE and WAYS": by all four RULES and all sets of six WAYS, helped or not. */
    private static void promise24Earliest() {
        for (int ways = 0; ways < 64; ways += 4) {
            DarkSitting x = new DarkSitting();
            for (String rule : new String[] {"last 2", "last 4;hold 0 by 1", "last 6;tie 1 5", "last 9;lit 0 to 9"}) {
                Trial.rule(x, rule);
            }
            for (String way : new String[] {"free 0;take 3", "free 0;need tied 1", "free 1;need helped", "reach 3",
                "free 2;take 8", "free 3;need held 0"}) {
                Trial.way(x, way);
            }
            x.thing(1, 0, 0);
            x.thing(0, 1, 0);
            x.thing(2, 0, 0);
            x.thing(0, 1, 3);
            for (int story = 0; story < 5; story++) {
                x.story(1, ways + story, 1);
            }
            for (int night = 0; night < 8; night++) {
                x.night(night / 2, night % 2 == 0 ? 0 : 2, 15, 0, 0);
            }
            for (int story = 0; story < 5; story++) {
                for (int night = 0; night < 8; night++) {
                    long due = 1;
                    for (int thing = 0; thing < 4; thing++) {
                        due *= x.earliest(night / 2, ways + story, night % 2 == 1, thing) == Trial.NONE ? 1 : 7;
                    }
                    String what = "ways " + (ways + story) + " on night " + night;
                    Trial.is("promise 24: " + what, due, x.factor(story, night));
                }
            }
        }
    }

    /** Bits of none count for nothing, as long as they are of none. */
    private static void promise20Bits() {
        DarkSitting x = new DarkSitting();
        Trial.rule(x, "last 9");
        x.thing(1, 0, 0);
        x.story(1, -1, Trial.NONE);
        x.story(1, 32, Trial.NONE);
        x.story(1, ~63, Trial.NONE);
        x.night(0, 0, 1, 0, 0);
        for (int way = 0; way < 6; way++) {
            Trial.is("promise 20: all bits, ways " + way, way > 2 ? 7 : 1, x.factor(0, 0));
            Trial.is("promise 20: the last way is not there", 1, x.factor(1, 0));
            Trial.way(x, way == 2 || way == 5 ? "free 0" : "");
        }
        Trial.is("promise 20: the last way is there", 7, x.factor(1, 0));
        Trial.is("promise 20: bits of none", 1, x.factor(2, 0));
    }

    /** "the first so many NIGHTS alone"; "there are not so many". */
    private static void promise23() {
        DarkSitting x = table();
        x.story(1, 1, Trial.NONE);
        x.story(1, 0, Trial.NONE);
        Trial.is("promise 23: no nights", 5000, x.oddsBy(0, 0));
        Trial.throwing("promise 23: not one", Trial.ARGUMENT, () -> x.oddsBy(0, 1));
        x.night(0, 0, 1, 0, 0);
        Trial.is("promise 23: by none still", 5000, x.oddsBy(0, 0));
        Trial.is("promise 23: by one", 8750, x.oddsBy(0, 1));
        Trial.is("promise 23: the other", 1250, x.oddsBy(1, 1));
        Trial.throwing("promise 23: not two", Trial.ARGUMENT, () -> x.oddsBy(0, 2));
        x.night(0, 0, 0, 0, 0);
        Trial.is("promise 23: by the first alone", 8750, x.oddsBy(0, 1));
        Trial.is("promise 23: by two", 7000, x.oddsBy(0, 2));
        Trial.is("promise 22: by all", 7000, x.odds(0));
        for (int nights : new int[] {-1, 13, Trial.MIN, Trial.MAX}) {
            Trial.refused("promise 23: nights " + nights, Trial.ARGUMENT, Trial::some, y -> y.oddsBy(0, nights));
            Trial.refused("promise 23: nights " + nights, Trial.ARGUMENT, Trial::full, y -> y.oddsBy(4, nights));
            noRow("promise 23: no story, and nights " + nights, y -> y.oddsBy(-1, nights));
        }
        Trial.refused("promise 23: one more than there are", Trial.ARGUMENT, Trial::some, y -> y.oddsBy(0, y.count(7) + 1));
        Trial.is("promise 23: all twelve", Trial.full().odds(2), Trial.full().oddsBy(2, 12));
    }

    /** "There is no such STORY, NIGHT, TRAP." */
    private static void noSuchRows() {
        for (int row : new int[] {Trial.MIN, -1, 12, Trial.MAX}) {
            noRow("promise 22: story " + row, x -> x.odds(row));
            noRow("promise 23: story " + row, x -> x.oddsBy(row, 0));
            noRow("promise 24: story " + row, x -> x.factor(row, 0));
            noRow("promise 24: night " + row, x -> x.factor(0, row));
            noRow("promise 25: trap " + row, x -> x.says(row));
        }
        noRow("promise 22: as many as there are", x -> x.odds(x.count(6)));
        noRow("promise 23: as many as there are", x -> x.oddsBy(x.count(6), 0));
        noRow("promise 24: as many stories as there are", x -> x.factor(x.count(6), 0));
        noRow("promise 24: as many nights as there are", x -> x.factor(0, x.count(7)));
        noRow("promise 25: as many as there are", x -> x.says(x.count(5)));
    }

    private static DarkSitting trapped(int used, int not, int weightUsed, int weightNot) {
        DarkSitting x = new DarkSitting();
        Trial.way(x, "");
        x.trap(0, used, not);
        if (weightUsed > 0) {
            x.story(weightUsed, 1, Trial.NONE);
        }
        if (weightNot > 0) {
            x.story(weightNot, 0, Trial.NONE);
        }
        return x;
    }

    /** SAYS: naught, the least and the greatest, and what is rounded down. */
    private static void promise25() {
        Trial.is("promise 25: no stories", 0, trapped(9, 1, 0, 0).says(0));
        Trial.is("promise 25: one story", 0, trapped(9, 1, 1, 0).says(0));
        Trial.is("promise 25: one story without the way", 0, trapped(9, 1, 0, 99).says(0));
        Trial.is("promise 25: it springs likewise", 0, trapped(9, 9, 1, 1).says(0));
        Trial.is("promise 25: the most that it can say", 40000, trapped(9, 1, 1, 1).says(0));
        Trial.is("promise 25: without sign", 40000, trapped(1, 9, 1, 1).says(0));
        Trial.is("promise 25: one of ten between them", 5000, trapped(5, 4, 1, 1).says(0));
        // 2 * 100 * 9900 * 8 / 10000 = 1584.
        Trial.is("promise 25: by the least and the greatest weight", 1584, trapped(9, 1, 1, 99).says(0));
        // Odds 6667 and 3333: 2 * 6667 * 3333 * 1 / 10000 = 4444.2222, rounded down.
        Trial.is("promise 25: rounded down", 4444, trapped(2, 1, 2, 1).says(0));
        DarkSitting x = trapped(9, 1, 1, 1);
        Trial.rule(x, "last 9");
        x.thing(0, 0, 0);
        for (int k = 0; k < 12; k++) {
            x.night(0, 0, 1, 1, 1);
        }
        Trial.is("promise 25: behind twelve nights", 0, x.says(0));
        Trial.is("promise 22: it is as good as told", 10000, x.odds(0));
    }

    private static void with(String what, DarkSitting x, int person, int... due) {
        for (int k = 0; k < due.length; k++) {
            Trial.is("promise 26: " + what + ", what " + k, due[k], x.with(person, k));
        }
    }

    /** Nights of which the first "there" have a PERSON and the last "came" a THING. */
    private static DarkSitting nights(int many, int person, int there, int came) {
        DarkSitting x = new DarkSitting();
        Trial.rule(x, "");
        for (int k = 0; k < 6; k++) {
            x.thing(0, 0, 0);
        }
        for (int night = 0; night < many; night++) {
            x.night(0, night < there ? 1 << person : 255 & ~(1 << person), night < many - came ? 0 : 1 << night % 6, 0, 0);
        }
        return x;
    }

    /** WITH: no NIGHTS, none with it, all with it; the most ways to choose; PERSONS 0 to 7 that need not be there. */
    private static void promise26() {
        for (int person : new int[] {0, 1, 7}) {
            with("no nights", new DarkSitting(), person, 0, 0, 0, 1);
            with("one night, nothing of both", nights(1, person, 0, 0), person, 0, 0, 0, 1);
            with("one night, both", nights(1, person, 1, 1), person, 1, 1, 1, 1);
            with("one night, it was there", nights(1, person, 1, 0), person, 0, 1, 0, 1);
            with("one night, some came", nights(1, person, 0, 1), person, 0, 0, 1, 1);
            with("twelve, never there", nights(12, person, 0, 12), person, 0, 0, 12, 1);
            with("twelve, always there", nights(12, person, 12, 12), person, 12, 12, 12, 1);
            with("twelve, six and six apart", nights(12, person, 6, 6), person, 0, 6, 6, 924);
            with("twelve, seven and six", nights(12, person, 7, 6), person, 1, 7, 6, 792);
            with("twelve, six and seven", nights(12, person, 6, 7), person, 1, 6, 7, 924);
            // C(6,2) C(6,6) + C(6,3) C(6,5) + .. + C(6,6) C(6,2): all of C(12,8) = 495.
            with("twelve, eight and six", nights(12, person, 8, 6), person, 2, 8, 6, 495);
            with("twelve, eleven and one", nights(12, person, 11, 1), person, 0, 11, 1, 12);
            with("twelve, twelve and one", nights(12, person, 12, 1), person, 1, 12, 1, 1);
            DarkSitting x = nights(7, person, 0, 0);
            x.night(0, 1 << person, 0, 0, 0);
            x.night(0, 1 << person, 0, 0, 0);
            with("nothing came on nine", x, person, 0, 2, 0, 36);
            for (int k = 0; k < 3; k++) {
                x.night(0, 1 << person, 32, 0, 0);
            }
            // 5 of 12, on 3 nights some came, always with it: C(3,3) C(9,2) = 36.
            with("always when some came", x, person, 3, 5, 3, 36);
        }
    }

    /** "(0 to 7)", "NoSuchElementException: another what": a PERSON who is none comes first. */
    private static void promise26Refused() {
        for (int what : new int[] {-1, 4, 5, Trial.MIN, Trial.MAX}) {
            Trial.refused("promise 26: what " + what, Trial.NO_ELEMENT, Trial::some, x -> x.with(7, what));
            Trial.refused("promise 26: what " + what, Trial.NO_ELEMENT, Trial::full, x -> x.with(0, what));
            noRow("promise 26: person -1, and what " + what, x -> x.with(-1, what));
            noRow("promise 26: person 8, and what " + what, x -> x.with(8, what));
        }
        noRow("promise 26: person 8", x -> x.with(8, 0));
        noRow("promise 26: far below", x -> x.with(Trial.MIN, 3));
        noRow("promise 26: far above", x -> x.with(Trial.MAX, 3));
    }

    public static void main(String[] args) {
        promise20Bits();
        promise22Weights();
        promise22Products();
        promise23();
        promise24Each();
        promise24Earliest();
        promise24Greatest();
        promise24Helpers();
        noSuchRows();
        promise25();
        promise26();
        promise26Refused();
        Trial.ends("StoryBoundariesTest");
    }
}
