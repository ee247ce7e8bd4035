import java.util.function.Consumer;

/** Boundary cases of THE IMAGE and of a whole life of an object: promises 37 and 38. */
public final class ImageBoundariesTest {
    /** One more or another of each kind, so that a way back that forgets it can be told. */
    private static final String[] KINDS = {"person", "rule", "way", "thing", "note", "torn", "trap", "story", "night",
        "knew", "told", "knot", "rope"};

    private static void change(DarkSitting x, String kind) {
        switch (kind) {
            case "person":
                x.person(9, 0);
                break;
            case "rule":
                x.end(0);
                Trial.rule(x, "last 7");
                break;
            case "way":
                x.end(0);
                Trial.way(x, "free 2;free 3;reach 9");
                break;
            case "thing":
                x.thing(0, 1, 1);
                break;
            case "note":
                x.note(0, 299);
                break;
            case "torn":
                x.torn();
                break;
            case "trap":
                x.trap(1, 2, 9);
                break;
            case "story":
                x.story(77, 3, 2);
                break;
            case "night":
                x.night(0, 6, 2, 1, 0);
                break;
            case "knew":
                x.knew(8);
                break;
            case "told":
                x.told(2, 0, 0);
                break;
            case "knot":
                x.knot(1, 1, 0, 9);
                break;
            default:
                x.rope(50);
                break;
        }
    }

    private static DarkSitting kept(DarkSitting x) {
        x.image();
        return x;
    }

    /** "THE IMAGE ... of all may be kept, and gone back to": each kind for itself, and all at once. */
    private static void promise38Each() {
        String due = Portrait.ofRows(kept(Trial.some()));
        for (String kind : KINDS) {
            DarkSitting x = kept(Trial.some());
            change(x, kind);
            Trial.is("promise 38: back behind " + kind, true, x.back());
            Trial.is("promise 38: as it was ahead of " + kind, due, Portrait.ofRows(x));
            DarkSitting y = Trial.some();
            change(y, kind);
            String changed = Portrait.ofRows(kept(again(kind)));
            y.image();
            Trial.is("promise 37: kept behind " + kind, changed, Portrait.ofRows(y));
            Trial.is("promise 37: " + kind + " can be told", false, changed.equals(due));
        }
        DarkSitting z = kept(Trial.some());
        for (String kind : KINDS) {
            change(z, kind);
        }
        Trial.is("promise 38: back behind all of it", true, z.back());
        Trial.is("promise 38: as it was", due, Portrait.ofRows(z));
    }

    private static DarkSitting again(String kind) {
        DarkSitting x = Trial.some();
        change(x, kind);
        return x;
    }

    /** What was asked ahead of the way back must not tell behind it. */
    private static void promise38Asked() {
        String due = Portrait.ofRows(kept(Trial.some()));
        for (String kind : KINDS) {
            DarkSitting x = kept(Trial.some());
            change(x, kind);
            for (int thing = 0; thing < x.count(3); thing++) {
                x.shut(thing);
                x.opens(0, thing);
            }
            for (int story = 0; story < x.count(6); story++) {
                x.odds(story);
            }
            x.can(0, -1, true);
            x.knows(365);
            x.out(-1, true);
            x.back();
            Trial.is("promise 38: asked behind " + kind, due, Portrait.ofRows(x));
        }
    }

    /** "false, and nothing happens, if none was kept." */
    private static void promise38None() {
        DarkSitting x = new DarkSitting();
        Trial.is("promise 38: of a new object", false, x.back());
        Trial.is("promise 38: nothing happened", Portrait.of(new DarkSitting()), Portrait.of(x));
        DarkSitting y = new DarkSitting();
        y.person(1, 1);
        Trial.rule(y, "last 5");
        y.rope(4);
        y.knew(2);
        Trial.write(y, "last 6");
        Trial.is("promise 38: none was kept", false, y.back());
        Trial.is("promise 38: the person is there", 1, y.count(0));
        Trial.is("promise 38: who knew", 2, y.knows(0));
        Trial.is("promise 38: the tape", 1, y.rule());
        Trial.is("promise 38: the rules", 6, y.look(1, 0));
        Trial.is("promise 38: none was kept still", false, y.back());
        y.image();
        Trial.is("promise 38: one was kept", true, y.back());
    }

    /** "(but for the TAPE, fault() and THE IMAGE itself)". */
    private static void promise38But() {
        DarkSitting x = new DarkSitting();
        Trial.write(x, "last 12");
        x.image();
        Trial.is("promise 37: the tape is as it was", false, x.end(8));
        Trial.is("promise 37: all seven bytes", true, x.end(7));
        x.end(6);
        Trial.is("promise 38: back", true, x.back());
        Trial.is("promise 38: the tape is not gone back to", false, x.end(7));
        Trial.is("promise 38: nor is it empty", 0, x.rule());
        Trial.is("promise 38: it was cut", 1, x.look(0, 0));
        x.back();
        Trial.is("promise 38: used up it stays", false, x.end(1));
        Trial.is("promise 38: no fault", Trial.NONE, x.fault());
        Trial.write(x, "last x");
        Trial.throwing("promise 38: wrong", Trial.ARGUMENT, x::rule);
        x.image();
        Trial.is("promise 37: the fault stays", 5, x.fault());
        Trial.is("promise 38: right", 0, Trial.rule(x, "last 1"));
        Trial.is("promise 38: back", true, x.back());
        Trial.is("promise 38: no fault comes back", Trial.NONE, x.fault());
        Trial.write(x, "lasting");
        Trial.throwing("promise 38: wrong", Trial.ARGUMENT, x::way);
        x.back();
        Trial.is("promise 38: none goes", 0, x.fault());
        for (int k = 0; k < 20; k++) {
            x.person(k % 10, k);
            Trial.is("promise 38: the image itself stays", true, x.back());
            Trial.is("promise 38: without persons", 0, x.count(0));
        }
    }

    /** "(one)": the latest alone; of nothing, and of all that there may be. */
    private static void promise37() {
        DarkSitting x = Trial.full();
        String full = Portrait.ofRows(kept(Trial.full()));
        x.image();
        Trial.is("promise 37: nothing is changed by it", full, Portrait.ofRows(x));
        DarkSitting y = Trial.full();
        y.image();
        y.torn();
        y.knew(0);
        y.rope(0);
        Trial.is("promise 38: to the full one", true, y.back());
        Trial.is("promise 38: as full as it was", full, Portrait.ofRows(y));

        DarkSitting z = new DarkSitting();
        z.image();
        for (String kind : new String[] {"person", "rule", "way", "way", "thing", "note", "trap", "story", "knew", "told",
            "knot", "rope"}) {
            change(z, kind);
        }
        z.night(0, 1, 1, 1, 1);
        Trial.is("promise 38: to nothing", true, z.back());
        Trial.is("promise 38: nothing is there", Portrait.ofRows(kept(new DarkSitting())), Portrait.ofRows(z));
        DarkSitting w = new DarkSitting();
        for (int k = 1; k <= 8; k++) {
            w.image();
            w.person(0, 0);
            if (k % 2 == 0) {
                w.back();
                Trial.is("promise 37: the latest image alone", k / 2, w.count(0));
                w.back();
                Trial.is("promise 38: there once more", k / 2, w.count(0));
            }
        }
    }

    /** Rows are numbered from what is there behind the way back; room comes back, and goes. */
    private static void promise38Room() {
        DarkSitting x = new DarkSitting();
        for (int k = 0; k < 7; k++) {
            x.person(0, 0);
        }
        x.image();
        for (int k = 0; k < 3; k++) {
            Trial.is("promise 38: the eighth", 7, x.person(9, 9));
            refusedPerson(x);
            x.back();
        }
        DarkSitting y = Trial.full();
        y.image();
        y.torn();
        Trial.is("promise 12: room for a note", 0, y.note(0, 0));
        y.back();
        Trial.throwing("promise 38: no room for a note", Trial.FULL, () -> y.note(0, 0));
        Trial.is("promise 38: ten notes", 10, y.torn());
    }

    private static void refusedPerson(DarkSitting x) {
        Consumer<DarkSitting> ninth = y -> y.person(0, 0);
        Trial.throwing("promise 4: a ninth", Trial.FULL, () -> ninth.accept(x));
        Trial.is("promise 4: there are eight", 8, x.count(0));
    }

    /** "An object is used for at most 512 calls": the last of them answers, too. */
    private static void allCalls() {
        DarkSitting x = new DarkSitting();
        for (int call = 1; call <= 511; call++) {
            switch (call % 4) {
                case 0:
                    x.image();
                    break;
                case 1:
                    Trial.is("call " + call, true, call == 1 ? !x.back() : x.back());
                    break;
                case 2:
                    x.knew(call & 254);
                    break;
                default:
                    Trial.is("call " + call, call - 1 & 254, x.knows(365));
                    break;
            }
        }
        Trial.is("call 512", 510 & 254, x.knows(0));
    }

    public static void main(String[] args) {
        promise37();
        promise38Each();
        promise38Asked();
        promise38None();
        promise38But();
        promise38Room();
        allCalls();
        Trial.ends("ImageBoundariesTest");
    }
}
