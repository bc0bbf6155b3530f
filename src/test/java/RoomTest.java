import java.lang.management.ManagementFactory;
import java.util.function.LongSupplier;

/** What a run makes stays far below the room of LANGUAGE.md: the constructor makes objects, and calls make none. */
public final class RoomTest {
    private static final int CALLS = 512;
    private static final long MOST_FOR_AN_OBJECT = 150_000;
    private static final long MOST_FOR_CALLS = 20_000;

    private static final Check CHECK = new Check("RoomTest");
    private static final com.sun.management.ThreadMXBean THREADS =
            (com.sun.management.ThreadMXBean) ManagementFactory.getThreadMXBean();

    public static void main(String[] args) {
        fullStore();
        within("a new object", MOST_FOR_AN_OBJECT, 1, () -> new Branchwork().many(1));
        Branchwork x = fullStore();
        within("digest", MOST_FOR_CALLS, CALLS, x::digest);
        within("conflictsOf", MOST_FOR_CALLS, CALLS, () -> x.conflictsOf(28, 29));
        within("origin", MOST_FOR_CALLS, CALLS, () -> x.origin(28, 11, 9));
        within("changes", MOST_FOR_CALLS, CALLS, () -> x.changes(28, 29, 2));
        within("went", MOST_FOR_CALLS, CALLS, () -> x.went(28, 29, 0));
        within("garbage", MOST_FOR_CALLS, CALLS, x::garbage);
        within("meanLines", MOST_FOR_CALLS, CALLS, () -> (long) x.meanLines());
        within("put and cut", MOST_FOR_CALLS, CALLS / 2, () -> x.cut(11, 0) + x.put(11, 0, 1));
        within("reset", MOST_FOR_CALLS, CALLS, () -> x.reset(29));
        within("all commits", MOST_FOR_AN_OBJECT + MOST_FOR_CALLS, 1, () -> fullStore().many(0));
        CHECK.end();
    }

    /** 30 commits of 12 files with 10 lines each; the last two on two branches, one of them with half of the files. */
    private static Branchwork fullStore() {
        Branchwork x = new Branchwork();
        for (int path = 0; path < 12; path++) {
            for (int place = 0; place < 10; place++) {
                x.put(path, place, path * 8 + place % 5);
            }
        }
        x.commit(0);
        x.branch();
        for (int i = 1; i < 29; i++) {
            x.cut(0, 0);
            x.put(0, 0, i);
            x.commit(i);
        }
        x.change(1);
        for (int path = 0; path < 6; path++) {
            x.remove(path);
        }
        x.commit(29);
        return x;
    }

    private static void within(String what, long most, int times, LongSupplier call) {
        long thread = Thread.currentThread().getId();
        long sum = 0;
        long before = THREADS.getThreadAllocatedBytes(thread);
        for (int i = 0; i < times; i++) {
            sum += call.getAsLong();
        }
        long made = THREADS.getThreadAllocatedBytes(thread) - before;
        CHECK.holds(what + " makes at most " + most + " bytes (" + made + ", answers " + sum + ")", made <= most);
        if (System.getProperty("show") != null) {
            System.out.println(what + ": " + made + " bytes");
        }
    }
}
