import java.lang.management.ManagementFactory;
import java.util.function.LongSupplier;
import java.util.function.ToLongFunction;

/** What a run makes stays far below the room of LANGUAGE.md: the constructor makes objects, and calls make none. */
public final class RoomTest {
    private static final int CALLS = 140;
    private static final long MOST_FOR_AN_OBJECT = 150_000;
    private static final long MOST_FOR_CALLS = 20_000;

    private static final Check CHECK = new Check("RoomTest");
    private static final com.sun.management.ThreadMXBean THREADS =
            (com.sun.management.ThreadMXBean) ManagementFactory.getThreadMXBean();

    public static void main(String[] args) {
        fullStore();
        within("a new object", MOST_FOR_AN_OBJECT, () -> new Branchwork().many(1));
        callsWithin("digest", Branchwork::digest);
        callsWithin("conflictsOf", x -> x.conflictsOf(28, 29));
        callsWithin("origin", x -> x.origin(28, 11, 9));
        callsWithin("changes", x -> x.changes(28, 29, 2));
        callsWithin("went", x -> x.went(28, 29, 0));
        callsWithin("garbage", Branchwork::garbage);
        callsWithin("meanLines", x -> (long) x.meanLines());
        callsWithin("put and cut", x -> x.put(0, 0, 1) + x.cut(0, 0));
        callsWithin("reset", x -> x.reset(29));
        within("all commits", MOST_FOR_AN_OBJECT + MOST_FOR_CALLS, () -> fullStore().many(0));
        CHECK.end();
    }

    /** 30 commits of 12 files with 10 lines each; the last two on two branches, one of them with half of the files. */
    private static Branchwork fullStore() {
        Branchwork x = new Branchwork();
        for (int path = 0; path < 12; path++) {
            for (int place = 0; place < 10; place++) {
                x.put(path, place, path * 8 + place % 5);
            }
        }
        x.commit(0);
        x.branch();
        for (int i = 1; i < 29; i++) {
            x.cut(0, 0);
            x.put(0, 0, i);
            x.commit(i);
        }
        x.change(1);
        for (int path = 0; path < 6; path++) {
            x.remove(path);
        }
        x.commit(29);
        return x;
    }

    /** On an object of its own, which has had 214 calls before. */
    private static void callsWithin(String what, ToLongFunction<Branchwork> call) {
        Branchwork x = fullStore();
        within(what, MOST_FOR_CALLS, () -> {
            long sum = 0;
            for (int i = 0; i < CALLS; i++) {
                sum += call.applyAsLong(x);
            }
            return sum;
        });
    }

    private static void within(String what, long most, LongSupplier call) {
        long thread = Thread.currentThread().getId();
        long before = THREADS.getThreadAllocatedBytes(thread);
        long answer = call.getAsLong();
        long made = THREADS.getThreadAllocatedBytes(thread) - before;
        CHECK.holds(what + " makes at most " + most + " bytes (" + made + ", answers " + answer + ")", made <= most);
        if (System.getProperty("show") != null) {
            System.out.println(what + ": " + made + " bytes");
        }
    }
}
