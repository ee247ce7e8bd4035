import java.util.function.Consumer;

/** Boundary cases of the calls that make rows: promises 1, 4, 8, 11, 12, 19, 20, 21, 27, 28, 31, 32 and 39. */
public final class RowBoundariesTest {
    private static final int[] GREATEST_COUNTS = {8, 4, 6, 6, 10, 4, 5, 12, 20, 6};

    /** Refused where there is room and where there is none, and nothing is changed by it. */
    private static void none(String what, Consumer<DarkSitting> call) {
        Trial.refused(what, Trial.ARGUMENT, Trial::some, call);
        Trial.refused(what + ", and it is full", Trial.ARGUMENT, Trial::full, call);
    }

    private static void noRow(String what, Consumer<DarkSitting> call) {
        Trial.refused(what, Trial.INDEX, Trial::some, call);
        Trial.refused(what + ", and it is full", Trial.INDEX, Trial::full, call);
    }

    private static void noRoom(String what, Consumer<DarkSitting> call) {
        Trial.refused(what, Trial.FULL, Trial::full, call);
    }

    /** "Nobody, nothing; a rope without slack." */
    private static void promise1() {
        DarkSitting x = new DarkSitting();
        for (int what = 0; what < 10; what++) {
            Trial.is("promise 1: count " + what, 0, x.count(what));
        }
        Trial.is("promise 1: no fault", Trial.NONE, x.fault());
        Trial.is("promise 1: nothing on the tape", false, x.end(1));
        Trial.is("promise 1: no image", false, x.back());
        Trial.is("promise 1: no notes", 0, x.torn());
        Trial.is("promise 1: nobody knew", 0, x.knows(365));
        Trial.is("promise 1: nothing to open", 0, x.out(-1, false));
        Trial.is("promise 1: nothing to open and tie", 0, x.out(-1, true));
        Trial.is("promise 1: nothing to open first", Trial.NONE, x.first(-1));
        for (int person = 0; person < 8; person++) {
            Trial.is("promise 1: no nights with " + person, 0, x.with(person, 1));
            Trial.is("promise 1: one way to choose none of none", 1, x.with(person, 3));
        }
        x.knot(1, 1, 0, 0);
        x.knot(1, 1, 1, 0);
        Trial.is("promise 1: a rope without slack is enough for none", 1, x.out(1, false));
        Trial.is("promise 1: and not for one", Trial.NONE, x.out(2, false));
    }

    /** "There is no such one": each call that asks for a row has none in a new object, whatever else is wrong. */
    private static void promise1NoRows() {
        for (int row : new int[] {Trial.MIN, -1, 0, 1, Trial.MAX}) {
            noRows("look", x -> x.look(row, 9));
            noRows("needs", x -> x.needs(row, row, 301, 16, false));
            noRows("note", x -> x.note(row, 301));
            noRows("can", x -> x.can(row, 0, false));
            noRows("fewest", x -> x.fewest(row, false));
            noRows("earliest", x -> x.earliest(row, 0, false, row));
            noRows("may", x -> x.may(row, 0, false, 301));
            noRows("shut", x -> x.shut(row));
            noRows("opens", x -> x.opens(row, row));
            noRows("trap", x -> x.trap(row, 0, 0));
            noRows("night", x -> x.night(row, -1, -1, -1, -1));
            noRows("odds", x -> x.odds(row));
            noRows("oddsBy", x -> x.oddsBy(row, 13));
            noRows("factor", x -> x.factor(row, row));
            noRows("says", x -> x.says(row));
        }
    }

    private static void noRows(String what, Consumer<DarkSitting> call) {
        Trial.refused("promise 1: " + what + " of a new object", Trial.INDEX, Trial::empty, call);
    }

    /** KNOWS 0 to 9, TIRES 0 to 400. */
    private static void promise4Numbers() {
        DarkSitting x = new DarkSitting();
        Trial.is("promise 4: the least", 0, x.person(0, 0));
        Trial.is("promise 4: the greatest", 1, x.person(9, 400));
        Trial.is("promise 4: the least and the greatest", 2, x.person(0, 400));
        Trial.is("promise 4: the greatest and the least", 3, x.person(9, 0));
        none("promise 4: knows -1", y -> y.person(-1, 0));
        none("promise 4: knows 10", y -> y.person(10, 0));
        none("promise 4: tires -1", y -> y.person(0, -1));
        none("promise 4: tires 401", y -> y.person(0, 401));
        none("promise 4: far below", y -> y.person(Trial.MIN, 0));
        none("promise 4: far above", y -> y.person(0, Trial.MAX));
    }

    /** "KNOWS (0 to 9), TIRES (a second, 0 to 400)": each counts as it was told. */
    private static void promise4Counts() {
        for (int knows : new int[] {0, 1, 8, 9}) {
            for (int tires : new int[] {0, 1, 299, 300, 301, 400}) {
                DarkSitting x = new DarkSitting();
                x.person(5, 5);
                x.person(knows, tires);
                Trial.rule(x, "hold 0 by 1");
                Trial.way(x, "need knows 0 + 1 > " + knows + " and knows 0 < " + (knows + 1));
                Trial.way(x, "need tired 0");
                Trial.is("promise 4: knows " + knows, true, x.needs(0, 0, 0, 0, false));
                Trial.is("promise 4: tires " + tires + " at 0", tires == 0, x.needs(1, 0, 0, 0, false));
                Trial.is("promise 4: tires " + tires + " at 299", tires <= 299, x.needs(1, 0, 299, 0, false));
                Trial.is("promise 4: tires " + tires + " at 300", tires <= 300, x.needs(1, 0, 300, 0, false));
            }
        }
    }

    /** "UnsupportedOperationException: there are 8." */
    private static void promise4Full() {
        DarkSitting x = new DarkSitting();
        for (int k = 0; k < 8; k++) {
            Trial.is("promise 4: numbered from 0 on", k, x.person(k, k));
        }
        Trial.is("promise 4: eight", 8, x.count(0));
        noRoom("promise 4: a ninth", y -> y.person(0, 0));
        noRoom("promise 4: a ninth with the greatest numbers", y -> y.person(9, 400));
    }

    /** HANDS 0 to 2, FEET 0 to 2, REACH 0 to 9; at most 6. */
    private static void promise8() {
        DarkSitting x = new DarkSitting();
        Trial.is("promise 8: the least", 0, x.thing(0, 0, 0));
        Trial.is("promise 8: the greatest", 1, x.thing(2, 2, 9));
        for (int k = 2; k < 6; k++) {
            Trial.is("promise 8: numbered from 0 on", k, x.thing(k % 3, 1, k));
        }
        Trial.is("promise 8: six", 6, x.count(3));
        none("promise 8: hands -1", y -> y.thing(-1, 0, 0));
        none("promise 8: hands 3", y -> y.thing(3, 0, 0));
        none("promise 8: feet -1", y -> y.thing(0, -1, 0));
        none("promise 8: feet 3", y -> y.thing(0, 3, 0));
        none("promise 8: reach -1", y -> y.thing(0, 0, -1));
        none("promise 8: reach 10", y -> y.thing(0, 0, 10));
        none("promise 8: far away", y -> y.thing(Trial.MAX, Trial.MIN, Trial.MAX));
        noRoom("promise 8: a seventh", y -> y.thing(0, 0, 0));
        noRoom("promise 8: a seventh with the greatest numbers", y -> y.thing(2, 2, 9));
    }

    /** A THING that is there; the second 0 to 300; at most 10. */
    private static void promise11() {
        DarkSitting x = new DarkSitting();
        x.thing(0, 0, 0);
        Trial.is("promise 11: the first second", 0, x.note(0, 0));
        Trial.is("promise 11: the last second", 1, x.note(0, 300));
        for (int k = 2; k < 10; k++) {
            Trial.is("promise 11: numbered from 0 on", k, x.note(0, 300));
        }
        Trial.is("promise 11: ten", 10, x.count(4));
        none("promise 11: second -1", y -> y.note(0, -1));
        none("promise 11: second 301", y -> y.note(0, 301));
        none("promise 11: the last thing, far below", y -> y.note(1, Trial.MIN));
        none("promise 11: far above", y -> y.note(0, Trial.MAX));
        noRow("promise 11: thing -1", y -> y.note(-1, 301));
        noRow("promise 11: as many as there are", y -> y.note(y.count(3), 0));
        noRow("promise 11: far above", y -> y.note(Trial.MAX, -1));
        noRoom("promise 11: an eleventh", y -> y.note(0, 0));
        noRoom("promise 11: an eleventh of the last thing", y -> y.note(5, 300));
    }

    /** "All NOTES are torn: how many there were." */
    private static void promise12() {
        DarkSitting x = new DarkSitting();
        Trial.is("promise 12: none", 0, x.torn());
        x.thing(0, 0, 0);
        for (int many = 1; many <= 10; many++) {
            for (int k = 0; k < many; k++) {
                Trial.is("promise 12: numbered from 0 on again", k, x.note(0, k));
            }
            Trial.is("promise 12: as many as there were", many, x.torn());
            Trial.is("promise 12: none is left", 0, x.count(4));
            Trial.is("promise 12: none to tear", 0, x.torn());
        }
        DarkSitting y = Trial.full();
        Trial.is("promise 12: ten", 10, y.torn());
        Trial.is("promise 12: there is room again", 0, y.note(0, 0));
        Trial.is("promise 12: the things are there still", 6, y.count(3));
    }

    /** A WAY that is there; how often of 10, 1 to 9 each; at most 4. */
    private static void promise19() {
        DarkSitting x = new DarkSitting();
        Trial.way(x, "");
        Trial.is("promise 19: the least", 0, x.trap(0, 1, 1));
        Trial.is("promise 19: the greatest", 1, x.trap(0, 9, 9));
        Trial.is("promise 19: the least and the greatest", 2, x.trap(0, 1, 9));
        Trial.is("promise 19: the greatest and the least", 3, x.trap(0, 9, 1));
        Trial.is("promise 19: four", 4, x.count(5));
        none("promise 19: used 0", y -> y.trap(0, 0, 1));
        none("promise 19: used 10", y -> y.trap(0, 10, 1));
        none("promise 19: not 0", y -> y.trap(1, 1, 0));
        none("promise 19: not 10", y -> y.trap(1, 1, 10));
        none("promise 19: far away", y -> y.trap(0, Trial.MIN, Trial.MAX));
        noRow("promise 19: way -1", y -> y.trap(-1, 0, 0));
        noRow("promise 19: as many as there are", y -> y.trap(y.count(2), 1, 1));
        noRow("promise 19: far above", y -> y.trap(Trial.MAX, 0, 10));
        noRoom("promise 19: a fifth", y -> y.trap(0, 1, 1));
        noRoom("promise 19: a fifth of the last way", y -> y.trap(5, 9, 9));
    }

    /** WEIGHT 1 to 99; a helper 1 to 7, or NONE, who need not be there; any bits of WAYS; at most 5. */
    private static void promise20() {
        DarkSitting x = new DarkSitting();
        Trial.is("promise 20: the least", 0, x.story(1, 0, Trial.NONE));
        Trial.is("promise 20: the greatest", 1, x.story(99, -1, 7));
        Trial.is("promise 20: the first helper, not there as a person", 2, x.story(50, Trial.MIN, 1));
        Trial.is("promise 20: bits of none", 3, x.story(50, Trial.MAX, 1));
        Trial.is("promise 20: one of none", 4, x.story(50, 64, 1));
        Trial.is("promise 20: five", 5, x.count(6));
        none("promise 20: weight 0", y -> y.story(0, 0, Trial.NONE));
        none("promise 20: weight 100", y -> y.story(100, 0, Trial.NONE));
        none("promise 20: weight -1", y -> y.story(-1, 0, Trial.NONE));
        none("promise 20: the one is no helper", y -> y.story(1, 0, 0));
        none("promise 20: helper 8", y -> y.story(1, 0, 8));
        none("promise 20: helper -2", y -> y.story(1, 0, -2));
        none("promise 20: far away", y -> y.story(Trial.MAX, 0, Trial.MIN));
        noRoom("promise 20: a sixth", y -> y.story(1, 0, Trial.NONE));
        noRoom("promise 20: a sixth with the greatest numbers", y -> y.story(99, -1, 7));
    }

    /** "bits of no PERSONS (0 to 7), THINGS, TRAPS that are there now, or TRAPS sprang that were not set". */
    private static void promise21Bits() {
        DarkSitting x = new DarkSitting();
        Trial.rule(x, "");
        Trial.is("promise 21: no bits", 0, x.night(0, 0, 0, 0, 0));
        Trial.is("promise 21: all of 0 to 7, nobody there as a person", 1, x.night(0, 255, 0, 0, 0));
        Trial.throwing("promise 21: no things yet", Trial.ARGUMENT, () -> x.night(0, 0, 1, 0, 0));
        Trial.throwing("promise 21: no traps yet", Trial.ARGUMENT, () -> x.night(0, 0, 0, 1, 0));
        Trial.throwing("promise 21: no traps to spring", Trial.ARGUMENT, () -> x.night(0, 0, 0, 0, 1));
        Trial.way(x, "");
        for (int k = 0; k < 4; k++) {
            x.trap(0, 1, 1);
        }
        for (int k = 0; k < 6; k++) {
            x.thing(0, 0, 0);
        }
        Trial.is("promise 21: all bits", 2, x.night(0, 255, 63, 15, 15));
        Trial.is("promise 21: set, and none sprang", 3, x.night(0, 0, 0, 15, 0));
        Trial.is("promise 21: set, and the last sprang", 4, x.night(0, 0, 0, 8, 8));
        none("promise 21: person 8", y -> y.night(0, 256, 0, 0, 0));
        none("promise 21: persons -1", y -> y.night(0, -1, 0, 0, 0));
        none("promise 21: the highest bit of persons", y -> y.night(0, Trial.MIN, 0, 0, 0));
        none("promise 21: the first thing that is not there", y -> y.night(0, 0, 1 << y.count(3), 0, 0));
        none("promise 21: things -1", y -> y.night(0, 0, -1, 0, 0));
        none("promise 21: the highest bit of things", y -> y.night(0, 0, Trial.MIN, 0, 0));
        none("promise 21: the first trap that is not there", y -> y.night(0, 0, 0, 1 << y.count(5), 0));
        none("promise 21: traps -1", y -> y.night(0, 0, 0, -1, 0));
        none("promise 21: the highest bit of traps", y -> y.night(0, 0, 0, Trial.MIN, 0));
        none("promise 21: sprang, and none was set", y -> y.night(0, 0, 0, 0, 1));
        none("promise 21: sprang -1", y -> y.night(0, 0, 0, 1, -1));
        none("promise 21: the highest bit sprang", y -> y.night(0, 0, 0, 1, 1 | Trial.MIN));
        Trial.refused("promise 21: another one was set", Trial.ARGUMENT, Trial::full, y -> y.night(0, 0, 0, 5, 2));
    }

    /** A RULE that is there; at most 12. */
    private static void promise21Rows() {
        DarkSitting x = Trial.some();
        for (int k = 1; k < 12; k++) {
            Trial.is("promise 21: numbered from 0 on", k, x.night(0, 255, 3, 1, k % 2));
        }
        Trial.is("promise 21: twelve", 12, x.count(7));
        noRow("promise 21: rule -1", y -> y.night(-1, 256, -1, -1, -1));
        noRow("promise 21: as many as there are", y -> y.night(y.count(1), 0, 0, 0, 0));
        noRow("promise 21: far above", y -> y.night(Trial.MAX, 0, 0, 0, 1));
        noRoom("promise 21: a thirteenth", y -> y.night(0, 0, 0, 0, 0));
        noRoom("promise 21: a thirteenth of the last rule", y -> y.night(3, 255, 63, 15, 15));
    }

    /** "IllegalArgumentException: there are other bits than 1 to 7." "nobody at first", "in place of what was told before". */
    private static void promise27() {
        DarkSitting x = new DarkSitting();
        Trial.is("promise 27: nobody at first", 0, x.knows(365));
        for (int person = 1; person < 8; person++) {
            x.knew(1 << person);
            Trial.is("promise 27: " + person + " alone, in place of the one before", 1 << person, x.knows(0));
        }
        x.knew(254);
        Trial.is("promise 27: all of 1 to 7", 254, x.knows(0));
        x.knew(0);
        Trial.is("promise 27: nobody, in place of all", 0, x.knows(365));
        none("promise 27: the one", y -> y.knew(1));
        none("promise 27: the one too", y -> y.knew(255));
        none("promise 27: person 8", y -> y.knew(256));
        none("promise 27: person 8 too", y -> y.knew(256 | 2));
        none("promise 27: all bits", y -> y.knew(-1));
        none("promise 27: the highest bit", y -> y.knew(Trial.MIN | 2));
    }

    /** PERSONS 0 to 7, not one and the same; the DAY 0 to 365; at most 20. */
    private static void promise28() {
        DarkSitting x = new DarkSitting();
        Trial.is("promise 28: the first day", 0, x.told(0, 7, 0));
        Trial.is("promise 28: the last day", 1, x.told(7, 0, 365));
        for (int k = 2; k < 20; k++) {
            Trial.is("promise 28: numbered from 0 on", k, x.told(0, 7, 0));
        }
        Trial.is("promise 28: twenty", 20, x.count(8));
        for (int person = 0; person < 8; person++) {
            int one = person;
            none("promise 28: both are " + one, y -> y.told(one, one, 0));
        }
        none("promise 28: day -1", y -> y.told(1, 2, -1));
        none("promise 28: day 366", y -> y.told(1, 2, 366));
        none("promise 28: far away", y -> y.told(7, 0, Trial.MAX));
        noRow("promise 28: from -1", y -> y.told(-1, 0, 0));
        noRow("promise 28: from 8", y -> y.told(8, 0, 0));
        noRow("promise 28: to -1", y -> y.told(0, -1, 0));
        noRow("promise 28: to 8", y -> y.told(0, 8, 0));
        noRow("promise 28: both are 8, and the day is none", y -> y.told(8, 8, 366));
        noRow("promise 28: to is none, and the day is none", y -> y.told(7, Trial.MAX, -1));
        noRow("promise 28: from is none, and the day is none", y -> y.told(Trial.MIN, 7, -1));
        noRoom("promise 28: a twenty-first", y -> y.told(1, 0, 0));
        noRoom("promise 28: a twenty-first on the last day", y -> y.told(6, 7, 365));
    }

    /** OPENING and TYING 1 to 99, NEED and GIVES 0 to 50; at most 6. */
    private static void promise31() {
        DarkSitting x = new DarkSitting();
        Trial.is("promise 31: the least", 0, x.knot(1, 1, 0, 0));
        Trial.is("promise 31: the greatest", 1, x.knot(99, 99, 50, 50));
        for (int k = 2; k < 6; k++) {
            Trial.is("promise 31: numbered from 0 on", k, x.knot(1, 99, 0, 50));
        }
        Trial.is("promise 31: six", 6, x.count(9));
        none("promise 31: opening 0", y -> y.knot(0, 1, 0, 0));
        none("promise 31: opening 100", y -> y.knot(100, 1, 0, 0));
        none("promise 31: tying 0", y -> y.knot(1, 0, 0, 0));
        none("promise 31: tying 100", y -> y.knot(1, 100, 0, 0));
        none("promise 31: need -1", y -> y.knot(1, 1, -1, 0));
        none("promise 31: need 51", y -> y.knot(1, 1, 51, 0));
        none("promise 31: gives -1", y -> y.knot(1, 1, 0, -1));
        none("promise 31: gives 51", y -> y.knot(1, 1, 0, 51));
        none("promise 31: far away", y -> y.knot(Trial.MIN, Trial.MAX, Trial.MIN, Trial.MAX));
        noRoom("promise 31: a seventh", y -> y.knot(1, 1, 0, 0));
        noRoom("promise 31: a seventh with the greatest numbers", y -> y.knot(99, 99, 50, 50));
    }

    /** SLACK of the rope 0 to 50. */
    private static void promise32() {
        for (int slack : new int[] {0, 1, 49, 50}) {
            DarkSitting x = new DarkSitting();
            x.rope(slack);
            x.knot(3, 4, slack, 0);
            Trial.is("promise 32: a slack of " + slack + " is enough for as much", 3, x.out(1, false));
            if (slack < 50) {
                x.knot(3, 4, slack + 1, 0);
                Trial.is("promise 32: and not for more", Trial.NONE, x.out(2, false));
            }
        }
        DarkSitting z = new DarkSitting();
        z.knot(3, 4, 50, 0);
        z.rope(50);
        z.rope(50);
        Trial.is("promise 32: it is enough", 3, z.out(1, false));
        z.rope(49);
        Trial.is("promise 32: in place of what it was", Trial.NONE, z.out(1, false));
        none("promise 32: -1", y -> y.rope(-1));
        none("promise 32: 51", y -> y.rope(51));
        none("promise 32: far below", y -> y.rope(Trial.MIN));
        none("promise 32: far above", y -> y.rope(Trial.MAX));
    }

    /** "NONE for another what." */
    private static void promise39() {
        DarkSitting full = Trial.full();
        DarkSitting empty = new DarkSitting();
        for (int what = 0; what < 10; what++) {
            Trial.is("promise 39: all that there may be of " + what, GREATEST_COUNTS[what], full.count(what));
            Trial.is("promise 39: none of " + what, 0, empty.count(what));
        }
        for (int what : new int[] {-1, 10, 11, Trial.MIN, Trial.MAX}) {
            Trial.is("promise 39: what " + what, Trial.NONE, full.count(what));
            Trial.is("promise 39: what " + what + " of nothing", Trial.NONE, empty.count(what));
        }
    }

    public static void main(String[] args) {
        promise1();
        promise1NoRows();
        promise4Numbers();
        promise4Counts();
        promise4Full();
        promise8();
        promise11();
        promise12();
        promise19();
        promise20();
        promise21Bits();
        promise21Rows();
        promise27();
        promise28();
        promise31();
        promise32();
        promise39();
        Trial.ends("RowBoundariesTest");
    }
}
