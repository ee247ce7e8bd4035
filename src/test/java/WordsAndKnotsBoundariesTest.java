import java.util.function.Consumer;

/** Boundary cases of WORDS, KNOTS, TALES and COLD: promises 29, 30 and 33 to 36, and ==== 4. */
public final class WordsAndKnotsBoundariesTest {
    private static void none(String what, Consumer<DarkSitting> call) {
        Trial.refused(what, Trial.ARGUMENT, Trial::empty, call);
        Trial.refused(what + " of some", Trial.ARGUMENT, Trial::some, call);
        Trial.refused(what + ", and it is full", Trial.ARGUMENT, Trial::full, call);
    }

    private static DarkSitting told(int knew, int[]... tellings) {
        DarkSitting x = new DarkSitting();
        x.knew(knew);
        for (int[] t : tellings) {
            x.told(t[0], t[1], t[2]);
        }
        return x;
    }

    /** The DAY 0 to 365; "was told on that DAY or before by one who knew them on the DAY of telling". */
    private static void promise29Days() {
        for (int day : new int[] {0, 1, 364, 365}) {
            DarkSitting x = told(2, new int[] {1, 0, day});
            for (int asked : new int[] {0, 1, 363, 364, 365}) {
                Trial.is("promise 29: told on " + day + ", asked of " + asked, asked >= day ? 3 : 2, x.knows(asked));
            }
        }
        Trial.is("promise 29: the teller knew on the day", 14, told(2, new int[] {2, 3, 5}, new int[] {1, 2, 5}).knows(5));
        Trial.is("promise 29: not the day before", 2, told(2, new int[] {2, 3, 5}, new int[] {1, 2, 5}).knows(4));
        Trial.is("promise 29: the teller knew a day later", 6, told(2, new int[] {2, 3, 5}, new int[] {1, 2, 6}).knows(365));
        Trial.is("promise 29: the teller knew a day before", 14, told(2, new int[] {2, 3, 5}, new int[] {1, 2, 4}).knows(5));
        Trial.is("promise 29: told once more later", 14,
                told(2, new int[] {2, 3, 5}, new int[] {1, 2, 6}, new int[] {2, 3, 6}).knows(6));
        Trial.is("promise 29: of two days the earlier one counts", 6,
                told(2, new int[] {1, 2, 9}, new int[] {1, 2, 7}).knows(7));
        Trial.is("promise 29: nobody knew", 0, told(0, new int[] {1, 2, 0}, new int[] {2, 1, 0}).knows(365));
        Trial.is("promise 29: nothing was told", 254, told(254).knows(0));
        none("promise 29: day -1", x -> x.knows(-1));
        none("promise 29: day 366", x -> x.knows(366));
        none("promise 29: far below", x -> x.knows(Trial.MIN));
        none("promise 29: far above", x -> x.knows(Trial.MAX));
    }

    /** "(on one DAY in any order)": the longest row of tellings, forwards and backwards, and twenty of them. */
    private static void promise29Order() {
        DarkSitting forwards = told(128);
        DarkSitting backwards = told(128);
        for (int k = 0; k < 7; k++) {
            forwards.told(7 - k, 6 - k, 365);
            backwards.told(k + 1, k, 365);
        }
        Trial.is("promise 29: seven on one day", 255, forwards.knows(365));
        Trial.is("promise 29: seven on one day, the last one first", 255, backwards.knows(365));
        Trial.is("promise 29: the day before", 128, backwards.knows(364));
        Trial.is("promise 30: one source", 128, backwards.whence(365, false));
        Trial.is("promise 30: all must have", 254, backwards.whence(365, true));
        DarkSitting late = told(128);
        for (int k = 0; k < 7; k++) {
            late.told(k + 1, k, 6 - k);
        }
        Trial.is("promise 29: each on the day behind that of the one ahead", 255, late.knows(6));
        Trial.is("promise 29: all but the one", 254, late.knows(5));
        DarkSitting early = told(128);
        for (int k = 0; k < 7; k++) {
            early.told(k + 1, k, k);
        }
        Trial.is("promise 29: each on the day ahead of it", 192, early.knows(365));
        DarkSitting full = told(128);
        for (int k = 0; k < 13; k++) {
            full.told(1, 2, k);
        }
        for (int k = 0; k < 7; k++) {
            Trial.is("promise 28: the row ends at " + (13 + k), 13 + k, full.told(k + 1, k, 9));
        }
        Trial.is("promise 29: by the last seven of twenty", 255, full.knows(9));
    }

    /** WHENCE: "each PERSON who KNEW for whom it holds alone that THE ONE would know them on that DAY". */
    private static void promise30Whence() {
        DarkSitting x = told(254);
        for (int person = 1; person < 8; person++) {
            x.told(person, 0, person * 50);
        }
        for (int day : new int[] {0, 49, 50, 99, 100, 349, 350, 365}) {
            int due = 0;
            for (int person = 1; person < 8; person++) {
                due |= person * 50 <= day ? 1 << person : 0;
            }
            Trial.is("promise 30: from all who told by " + day, due, x.whence(day, false));
            Trial.is("promise 30: one alone must have told by " + day, Integer.bitCount(due) == 1 ? due : 0, x.whence(day, true));
        }
        DarkSitting y = told(4, new int[] {1, 0, 3}, new int[] {2, 1, 3});
        Trial.is("promise 30: one who told, but did not know from the beginning", 4, y.whence(3, false));
        Trial.is("promise 30: it must have told all the same", 6, y.whence(3, true));
        Trial.is("promise 30: the day before", 0, y.whence(2, false));
        DarkSitting z = told(6, new int[] {1, 0, 0});
        Trial.is("promise 30: on the first day", 2, z.whence(0, false));
        Trial.is("promise 30: on the first day it must", 2, z.whence(0, true));
        Trial.is("promise 30: nobody knew", 0, told(0, new int[] {1, 0, 0}).whence(365, false));
        Trial.is("promise 30: nothing was told", 0, told(254).whence(365, false));
        none("promise 30: day -1", w -> w.whence(-1, false));
        none("promise 30: day 366", w -> w.whence(366, false));
        none("promise 30: must, day -1", w -> w.whence(-1, true));
        none("promise 30: must, day 366", w -> w.whence(366, true));
        none("promise 30: far away", w -> w.whence(Trial.MAX, true));
    }

    /** MUST: "(as bits; 0, if it would not anyway)". */
    private static void promise30Must() {
        Trial.is("promise 30: it would not anyway", 0, told(2, new int[] {1, 0, 5}).whence(4, true));
        Trial.is("promise 30: nobody knew", 0, told(0, new int[] {1, 0, 5}).whence(5, true));
        Trial.is("promise 30: nothing was told", 0, told(254).whence(365, true));
        Trial.is("promise 30: told twice by one", 2, told(2, new int[] {1, 0, 5}, new int[] {1, 0, 5}).whence(5, true));
        Trial.is("promise 30: by two who knew", 0, told(6, new int[] {1, 0, 5}, new int[] {2, 0, 5}).whence(5, true));
        Trial.is("promise 30: by two who were told by one", 8, told(8, new int[] {1, 0, 5}, new int[] {2, 0, 5},
                new int[] {3, 1, 5}, new int[] {3, 2, 5}).whence(5, true));
        Trial.is("promise 30: the one told it too", 2,
                told(2, new int[] {1, 0, 5}, new int[] {0, 2, 5}, new int[] {2, 0, 6}).whence(6, true));
        Trial.is("promise 30: one who knew and told nobody", 4, told(6, new int[] {2, 0, 5}).whence(5, true));
        Trial.is("promise 30: the other way is open a day later", 0,
                told(6, new int[] {2, 0, 5}, new int[] {1, 0, 6}).whence(6, true));
        Trial.is("promise 30: and not yet", 4, told(6, new int[] {2, 0, 5}, new int[] {1, 0, 6}).whence(5, true));
    }

    private static DarkSitting knots(int rope, int[]... knots) {
        DarkSitting x = new DarkSitting();
        x.rope(rope);
        for (int[] k : knots) {
            x.knot(k[0], k[1], k[2], k[3]);
        }
        return x;
    }

    private static void ways(String what, DarkSitting x, int wanted, int out, int outAndIn, int first) {
        Trial.is("promise 33: out, " + what, out, x.out(wanted, false));
        Trial.is("promise 33: out and in, " + what, outAndIn, x.out(wanted, true));
        Trial.is("promise 34: " + what, first, x.first(wanted));
    }

    /** Nothing is to be opened; bits of none count for nothing; none. */
    private static void promise33Sets() {
        DarkSitting empty = new DarkSitting();
        for (int wanted : new int[] {0, 1, 63, -1, Trial.MIN, Trial.MAX}) {
            ways("no knots, set " + wanted, empty, wanted, 0, 0, Trial.NONE);
        }
        DarkSitting x = knots(0, new int[] {5, 7, 0, 0}, new int[] {1, 1, 1, 0});
        ways("nothing wanted", x, 0, 0, 0, Trial.NONE);
        for (int more : new int[] {4, 32, 64, 1 << 30, Trial.MIN, -4}) {
            ways("with bits of none", x, 1 | more, 5, 12, 0);
            ways("bits of none alone", x, more, 0, 0, Trial.NONE);
            ways("one that cannot be opened", x, 2 | more, Trial.NONE, Trial.NONE, Trial.NONE);
            ways("both, one cannot be opened", x, 3 | more, Trial.NONE, Trial.NONE, Trial.NONE);
        }
    }

    /** "if SLACK without what it GIVES is at least its NEED". */
    private static void promise33Slack() {
        for (int rope : new int[] {0, 1, 25, 50}) {
            ways("as much slack as it needs", knots(rope, new int[] {3, 4, rope, 0}), 1, 3, 7, 0);
            if (rope < 50) {
                ways("one too little", knots(rope, new int[] {3, 4, rope + 1, 0}), 1, Trial.NONE, Trial.NONE, Trial.NONE);
                ways("its own does not count", knots(rope, new int[] {3, 4, rope + 1, 50}), 1, Trial.NONE, Trial.NONE, Trial.NONE);
                ways("one more by another one", knots(rope, new int[] {3, 4, rope + 1, 0}, new int[] {2, 5, rope, 1}),
                        1, 5, 14, 1);
                ways("not enough by another one", knots(rope, new int[] {3, 4, rope + 1, 0}, new int[] {2, 5, rope, 0}),
                        1, Trial.NONE, Trial.NONE, Trial.NONE);
            }
        }
        ways("ten by five at once", knots(0, new int[] {1, 1, 0, 10}, new int[] {1, 1, 0, 10}, new int[] {1, 1, 0, 10},
                new int[] {1, 1, 0, 10}, new int[] {1, 1, 0, 10}, new int[] {9, 9, 50, 0}), 32, 14, 28, 0);
        ways("one too little by five at once", knots(0, new int[] {1, 1, 0, 10}, new int[] {1, 1, 0, 10}, new int[] {1, 1, 0, 10},
                new int[] {1, 1, 0, 10}, new int[] {1, 1, 0, 9}, new int[] {9, 9, 50, 0}), 32, Trial.NONE, Trial.NONE, Trial.NONE);
        ways("all the slack that there can be", knots(50, new int[] {99, 99, 50, 50}, new int[] {99, 99, 50, 50},
                new int[] {99, 99, 50, 50}, new int[] {99, 99, 50, 50}, new int[] {99, 99, 50, 50},
                new int[] {99, 99, 50, 50}), 63, 594, 1188, 0);
        ways("the least of all six", knots(0, new int[] {1, 1, 0, 0}, new int[] {1, 1, 0, 0}, new int[] {1, 1, 0, 0},
                new int[] {1, 1, 0, 0}, new int[] {1, 1, 0, 0}, new int[] {1, 1, 0, 0}), 63, 6, 12, 0);
        ways("each by the one behind it", knots(1, new int[] {1, 1, 6, 0}, new int[] {1, 1, 5, 1}, new int[] {1, 1, 4, 1},
                new int[] {1, 1, 3, 1}, new int[] {1, 1, 2, 1}, new int[] {1, 1, 1, 1}), 1, 6, 12, 5);
    }

    /** A KNOT that needs slack to be tied, too: "together the fewest", by other KNOTS in than out. */
    private static void promise33In() {
        // By 0 it is out at once, but 0 takes 99 to be tied: by 1 both ways are shorter together.
        DarkSitting x = knots(0, new int[] {1, 99, 0, 5}, new int[] {2, 1, 0, 5}, new int[] {1, 1, 5, 0});
        ways("one to get out, another one for both", x, 4, 2, 5, 0);
        // 1 is open while 0 is tied and gives the slack that 2 needs: tied last, it needs none.
        DarkSitting y = knots(2, new int[] {4, 4, 0, 3}, new int[] {5, 5, 3, 1}, new int[] {6, 6, 6, 0});
        ways("in again in the order turned round", y, 4, 15, 30, 0);
        ways("two of them", y, 3, 9, 18, 0);
        ways("the second", y, 2, 9, 18, 0);
        ways("the first alone", y, 1, 4, 8, 0);
        // 0 gives the slack for 1; 1 gives so much that 0 may be tied and 2 be opened by 1 alone.
        DarkSitting z = knots(0, new int[] {1, 1, 0, 3}, new int[] {2, 2, 3, 9}, new int[] {3, 3, 9, 0});
        ways("by two", z, 4, 6, 12, 0);
        Trial.is("promise 33: asked again", 12, z.out(4, true));
        Trial.is("promise 33: asked again", 6, z.out(4, false));
    }

    /** "the first KNOT to be opened in such a row to OUT alone, of several the least". */
    private static void promise34() {
        for (int least = 0; least < 6; least++) {
            DarkSitting x = new DarkSitting();
            for (int k = 0; k < 6; k++) {
                x.knot(5, 5, k < least ? 1 : 0, 0);
            }
            x.rope(0);
            int wanted = 63 & -(1 << least);
            Trial.is("promise 34: of " + (6 - least) + " the least", least, x.first(wanted));
            Trial.is("promise 34: the last alone", 5, x.first(32));
        }
        DarkSitting y = knots(0, new int[] {5, 5, 1, 0}, new int[] {4, 9, 0, 1}, new int[] {3, 99, 0, 1}, new int[] {3, 1, 0, 1});
        Trial.is("promise 34: the quickest of those that give slack, not the one that is tied first", 2, y.first(1));
        Trial.is("promise 33: by the quickest", 8, y.out(1, false));
        Trial.is("promise 33: in by the other one", 3 + 5 + 5 + 1, y.out(1, true));
        y.rope(1);
        Trial.is("promise 34: itself, by the slack of the rope", 0, y.first(1));
    }

    private static void tale(int due, int n, int grows, int years) {
        Trial.is("promise 35: " + n + " by " + grows + " for " + years, due, new DarkSitting().tale(n, grows, years));
    }

    /** A number 0 to 9999, hundredths 0 to 100, years 0 to 20; "rounded up"; "(It stops at 1000000000.)" */
    private static void promise35() {
        tale(0, 0, 0, 0);
        tale(9999, 9999, 100, 0);
        tale(0, 0, 100, 20);
        tale(9999, 9999, 0, 20);
        tale(2, 1, 100, 1);
        tale(2, 1, 1, 1);
        tale(3, 1, 1, 2);
        tale(21, 1, 1, 20);
        tale(1048576, 1, 100, 20);
        tale(101, 100, 1, 1);
        tale(103, 101, 1, 1);
        tale(100, 99, 1, 1);
        tale(150, 100, 50, 1);
        tale(149, 99, 50, 1);
        tale(10099, 9999, 1, 1);
        tale(655294464, 9999, 100, 16);
        tale(1000000000, 9999, 100, 17);
        tale(1000000000, 9999, 100, 18);
        tale(1000000000, 9999, 100, 20);
        // 953 * 2^20 = 999292928 is below, 954 * 2^20 is not.
        tale(999292928, 953, 100, 20);
        tale(1000000000, 954, 100, 20);
        // The nearest ones below and above it that there are: the second would be 1000004820.
        tale(999990746, 8768, 79, 20);
        tale(1000000000, 2956, 89, 20);
        tale(1000000000, 5587, 89, 19);
        none("promise 35: number -1", x -> x.tale(-1, 0, 0));
        none("promise 35: number 10000", x -> x.tale(10000, 0, 0));
        none("promise 35: hundredths -1", x -> x.tale(0, -1, 0));
        none("promise 35: hundredths 101", x -> x.tale(0, 101, 0));
        none("promise 35: years -1", x -> x.tale(0, 0, -1));
        none("promise 35: years 21", x -> x.tale(0, 0, 21));
        none("promise 35: far away", x -> x.tale(Trial.MIN, Trial.MAX, Trial.MIN));
    }

    private static void cold(int due, int doors, int degrees, int place) {
        Trial.is("promise 36: doors " + doors + ", " + degrees + " degrees at " + place, due,
                new DarkSitting().cold(doors, degrees, place));
    }

    /** Doors 0 to 255, degrees 0 to 99, a PLACE 0 to 7 in a ring; "0 at least; 0 without a DOOR". */
    private static void promise36() {
        int[] apart = {0, 1, 2, 3, 4, 3, 2, 1};
        for (int door = 0; door < 8; door++) {
            for (int place = 0; place < 8; place++) {
                int far = apart[Math.floorMod(place - door, 8)];
                cold(99 - 2 * far, 1 << door, 99, place);
                cold(0, 1 << door, 0, place);
                cold(0, 1 << door, 2 * far, place);
                cold(1, 1 << door, 2 * far + 1, place);
                cold(far == 0 ? 1 : 0, 1 << door, 1, place);
            }
        }
        for (int place = 0; place < 8; place++) {
            cold(0, 0, 99, place);
            cold(99, 255, 99, place);
            cold(97, 255 & ~(1 << place), 99, place);
            cold(0, 255, 0, place);
        }
        cold(95, 0b10001, 99, 2);
        cold(97, 0b10001, 99, 3);
        cold(97, 0b10000001, 99, 1);
        cold(97, 0b10000001, 99, 6);
        none("promise 36: doors -1", x -> x.cold(-1, 0, 0));
        none("promise 36: doors 256", x -> x.cold(256, 0, 0));
        none("promise 36: degrees -1", x -> x.cold(0, -1, 0));
        none("promise 36: degrees 100", x -> x.cold(0, 100, 0));
        none("promise 36: place -1", x -> x.cold(0, 0, -1));
        none("promise 36: place 8", x -> x.cold(0, 0, 8));
        none("promise 36: far away", x -> x.cold(Trial.MIN, Trial.MAX, Trial.MAX));
    }

    public static void main(String[] args) {
        promise29Days();
        promise29Order();
        promise30Whence();
        promise30Must();
        promise33Sets();
        promise33Slack();
        promise33In();
        promise34();
        promise35();
        promise36();
        Trial.ends("WordsAndKnotsBoundariesTest");
    }
}
