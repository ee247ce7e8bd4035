import java.lang.management.ManagementFactory;

/** What a run makes stays far below the room that there is for it: 600,000 objects with 7.3 million fields in all. */
public final class RoomTest {
    private static final long MOST_BYTES_OF_AN_OBJECT = 100_000;
    private static final long MOST_BYTES_OF_ALL_CALLS = 20_000;
    private static final int CALLS = 200;

    private static long made() {
        return ((com.sun.management.ThreadMXBean) ManagementFactory.getThreadMXBean()).getCurrentThreadAllocatedBytes();
    }

    /** Calls that answer: none of them has to make an object. */
    private static void ask(DarkSitting x) {
        for (int k = 0; k < CALLS; k++) {
            x.feed(k, k, k, k, k);
            x.end(0);
            x.look(k % 4, k % 5);
            x.needs(k % 6, k % 4, k, k % 16, true);
            x.can(k % 4, k, false);
            x.fewest(k % 4, true);
            x.earliest(k % 4, k, true, k % 6);
            x.may(k % 4, k, false, k);
            x.shut(k % 6);
            x.opens(k % 4, k % 6);
            x.odds(k % 5);
            x.oddsBy(k % 5, k % 13);
            x.factor(k % 5, k % 12);
            x.says(k % 4);
            x.with(k % 8, k % 4);
            x.knows(k);
            x.whence(k, k % 2 == 0);
            x.out(k, k % 2 == 0);
            x.first(k);
            x.tale(k, k % 100, k % 21);
            x.cold(k, k % 100, k % 8);
            x.image();
            x.back();
            x.count(k % 10);
        }
    }

    public static void main(String[] args) {
        ask(Trial.full());
        long before = made();
        DarkSitting x = new DarkSitting();
        Trial.is("rule 12: a new object is small", true, made() - before < MOST_BYTES_OF_AN_OBJECT && x.count(0) == 0);
        DarkSitting y = Trial.full();
        before = made();
        ask(y);
        Trial.is("rule 12: calls that answer make nothing", true, made() - before < MOST_BYTES_OF_ALL_CALLS);
        // One that reads a RULE again and again, as often as there may be calls.
        DarkSitting z = new DarkSitting();
        z.image();
        before = made();
        for (int k = 0; k < CALLS; k++) {
            z.feed(0x6c617374, 0x20373b6c, 0x61737420, 0x37202020, 0x20202020);
            z.rule();
            z.back();
        }
        Trial.is("rule 12: a rule takes little more than its lines", true, made() - before < CALLS * 500L);
        Trial.ends("RoomTest");
    }
}
