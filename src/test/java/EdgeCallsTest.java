import java.util.Arrays;
import java.util.Set;
import java.util.TreeMap;

/**
 * Every method with every choice of arguments at the edges of what it takes, in stores of all kinds: the class answers
 * as the model does, and throws what is named first; a call that throws changes nothing.
 */
public final class EdgeCallsTest {
    private static final int CALLS = 512;
    private static final Set<String> WRITING = Set.of("put", "cut", "rename", "remove", "commit", "branch", "change",
            "reset", "merge", "settle", "collect");
    private static final int[] PATHS = {Integer.MIN_VALUE, -1, 0, 1, 5, 11, 12, Integer.MAX_VALUE};
    private static final int[] PLACES = {Integer.MIN_VALUE, -1, 0, 1, 2, 9, 10, 11, Integer.MAX_VALUE};
    private static final int[] LINES = {Integer.MIN_VALUE, -1, 0, 99, 100, Integer.MAX_VALUE};
    private static final int[] NOTES = {Integer.MIN_VALUE, -1, 0, 999, 1000, Integer.MAX_VALUE};
    private static final int[] BRANCHES = {Integer.MIN_VALUE, -1, 0, 1, 4, 5, Integer.MAX_VALUE};
    private static final int[] COMMITS = {Integer.MIN_VALUE, -2, -1, 0, 1, 2, 3, 29, 30, 32, Integer.MAX_VALUE};
    private static final int[] CONFLICTS = {Integer.MIN_VALUE, -1, 0, 1, 2, 3, 24, Integer.MAX_VALUE};
    private static final int[] WHATS = {Integer.MIN_VALUE, -1, 0, 1, 2, 3, 4, 5, 6, Integer.MAX_VALUE};
    private static final int[] FEW_PATHS = {-1, 0, 1, 11, 12};
    private static final int[] FEW_COMMITS = {-1, 0, 1, 2, 3, 29, 30};

    private static final String TEN_LINES = "put 0 0 9;put 0 0 8;put 0 0 7;put 0 0 6;put 0 0 5;put 0 0 4;put 0 0 3;"
            + "put 0 0 2;put 0 0 1;put 0 0 0;";
    private static final String APART = "put 0 0 1;put 1 0 1;commit 0;branch;put 0 0 2;put 1 0 2;put 11 0 2;commit 1;"
            + "change 1;put 0 0 3;remove 1;put 11 0 3;commit 999;";
    private static final String[] STORES = {
        "",
        "put 0 0 1;put 0 1 2;put 11 0 0;cut 11 0;",
        TEN_LINES,
        TEN_LINES + "put 1 0 1;cut 1 0;commit 7;",
        TEN_LINES + "commit 7;rename 0 11;commit 8;remove 11;",
        APART,
        APART + "branch;branch;branch;put 5 0 5;",
        APART + "merge 0;",
        APART + "merge 0;settle 1;settle 0;settle 0;",
        APART + "merge 0;settle 1;settle 0;settle 0;cut 0 0;cut 0 0;cut 0 0;put 0 0 1;put 0 0 3;remove 1;"
            + "cut 11 0;cut 11 0;put 11 0 3;",
        APART + "merge 0;settle 1;settle 0;settle 0;commit 5;",
        APART + "reset 0;collect;",
        APART + "reset 0;collect;put 0 0 7;commit 3;change 0;"};

    private static final Check CHECK = new Check("EdgeCallsTest");
    private static final TreeMap<String, Integer> SEEN = new TreeMap<>();

    private final String script;
    private Twins twins;
    private long digest;

    private EdgeCallsTest(String script) {
        this.script = script;
        begin();
    }

    public static void main(String[] args) {
        for (String script : STORES) {
            new EdgeCallsTest(script).callAll();
        }
        new EdgeCallsTest(fullStore("change 4;")).callAll();
        new EdgeCallsTest(fullStore("reset 2;change 1;reset 3;change 2;reset 2;change 3;reset 2;change 4;reset 2;"
                + "collect;")).callAll();
        new EdgeCallsTest(fullStore("put 1 0 1;")).callAll();
        CHECK.end();
    }

    private static String fullStore(String then) {
        StringBuilder script = new StringBuilder();
        for (int i = 0; i < 30; i++) {
            script.append("put ").append(i % 12).append(" 0 ").append(i).append(";commit ").append(i).append(";");
        }
        return script.append("branch;branch;branch;branch;").append(then).toString();
    }

    private void callAll() {
        each("put", PATHS, PLACES, LINES);
        each("cut", PATHS, PLACES);
        each("rename", PATHS, PATHS);
        each("remove", PATHS);
        each("status", PATHS);
        each("commit", NOTES);
        each("branch");
        each("change", BRANCHES);
        each("reset", COMMITS);
        each("merge", BRANCHES);
        each("settle", CONFLICTS);
        each("collect");
        each("many", WHATS);
        each("now", WHATS);
        each("at", BRANCHES);
        each("ofCommit", COMMITS, WHATS);
        each("line", COMMITS, PATHS, PLACES);
        each("size", COMMITS, PATHS);
        each("conflict", CONFLICTS, WHATS);
        each("base", COMMITS, COMMITS);
        each("went", COMMITS, COMMITS, PATHS);
        each("changes", COMMITS, COMMITS, WHATS);
        each("nearness", FEW_COMMITS, FEW_PATHS, FEW_COMMITS, FEW_PATHS);
        each("origin", COMMITS, PATHS, PLACES);
        each("conflictsOf", COMMITS, COMMITS);
        each("garbage");
        each("meanLines");
        each("digest");
    }

    /** Counts through all choices, as an odometer does. */
    private void each(String name, int[]... edges) {
        int choices = 1;
        for (int[] edge : edges) {
            choices *= edge.length;
        }
        for (int choice = 0; choice < choices && !CHECK.isWrong(); choice++) {
            Integer[] arguments = new Integer[edges.length];
            int rest = choice;
            for (int i = 0; i < edges.length; i++) {
                arguments[i] = edges[i][rest % edges[i].length];
                rest /= edges[i].length;
            }
            call(name, arguments);
        }
    }

    private void call(String name, Integer... arguments) {
        if (twins.calls() + 3 > CALLS) {
            begin();
        }
        boolean thrown = twins.call(name, arguments).endsWith("Exception");
        if (!thrown && WRITING.contains(name)) {
            twins.call("digest");
            begin();
        } else {
            CHECK.holds(name + Arrays.toString(arguments) + " changes nothing", twins.digest() == digest);
        }
    }

    private void begin() {
        twins = new Twins(CHECK, SEEN);
        for (String call : script.isEmpty() ? new String[0] : script.split(";")) {
            String[] words = call.split(" ");
            Integer[] arguments = new Integer[words.length - 1];
            for (int i = 0; i < arguments.length; i++) {
                arguments[i] = Integer.parseInt(words[i + 1]);
            }
            CHECK.holds(call + " is taken", !twins.call(words[0], arguments).endsWith("Exception"));
        }
        digest = twins.digest();
    }
}
