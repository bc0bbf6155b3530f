import java.util.TreeMap;

/** Long runs of all calls, with wrong arguments among them, on the class and on the model. */
public final class RandomRunsTest {
    private static final int RUNS = 700;
    private static final int CALLS = 512;
    private static final String[] WRITING = {"put", "cut", "rename", "remove"};
    private static final String[] ASKING = {"many", "now", "at", "ofCommit", "line", "size", "conflict", "base", "went",
        "changes", "nearness", "origin", "conflictsOf", "garbage", "meanLines", "status"};
    private static final int[] EXTREMES = {Integer.MIN_VALUE, Integer.MIN_VALUE + 1, -1000, -2, -1, 5, 10, 11, 12, 30,
        31, 99, 100, 1000, 65536, 1 << 30, Integer.MAX_VALUE};

    private final Chance chance;
    private final Twins twins;
    private final int paths;
    private final int alphabet;
    private final int wrongArguments;
    private final int writing;

    private RandomRunsTest(Twins twins, Chance chance) {
        this.twins = twins;
        this.chance = chance;
        paths = 1 + chance.upTo(12);
        alphabet = chance.oneIn(3) ? 100 : 1 + chance.upTo(8);
        wrongArguments = chance.oneIn(4) ? 10 : 60;
        writing = 2 + chance.upTo(30);
    }

    public static void main(String[] args) {
        Check check = new Check("RandomRunsTest");
        TreeMap<String, Integer> seen = new TreeMap<>();
        Chance chance = new Chance(20261119L);
        Twins twins = new Twins(check, seen);
        for (int run = 0; run < RUNS && !check.isWrong(); run++) {
            twins = new Twins(check, seen);
            new RandomRunsTest(twins, chance).run();
        }
        everythingWasMet(twins);
        check.end();
    }

    private static void everythingWasMet(Twins twins) {
        for (String name : Twins.names()) {
            twins.wasMet(name + " answers");
        }
        twins.wasMet("conflict code 1", "conflict code 3", "conflict code 4", "conflict code 5",
                "merge with conflicts", "merge 0", "merge -1", "merge -2",
                "status tells 0", "status tells 1", "status tells 2", "status tells 3");
        for (String name : new String[] {"put", "cut", "rename", "remove", "status", "change", "reset", "merge",
            "settle", "at", "ofCommit", "line", "size", "conflict", "base", "went", "changes", "nearness", "origin",
            "conflictsOf"}) {
            twins.wasMet(name + " IndexOutOfBoundsException");
        }
        for (String name : new String[] {"put", "commit", "many", "now", "ofCommit", "conflict", "changes"}) {
            twins.wasMet(name + " IllegalArgumentException");
        }
        for (String name : new String[] {"put", "rename", "commit", "branch", "change", "merge"}) {
            twins.wasMet(name + " IllegalStateException");
        }
    }

    private void run() {
        while (twins.calls() < CALLS) {
            step();
            if (chance.oneIn(3) && twins.calls() < CALLS) {
                twins.call("digest");
            }
        }
    }

    /** Mostly writes and commits, as little comes of the other calls without; the rest by chance. */
    private void step() {
        int dice = chance.upTo(writing + 30) - writing;
        if (dice < 0) {
            write();
        } else if (dice < 4) {
            twins.call("commit", argument(chance.upTo(1000)));
        } else if (dice < 6) {
            twins.call("change", argument(branch()));
        } else if (dice < 7) {
            twins.call("branch");
        } else if (dice < 10) {
            twins.call("merge", argument(branch()));
        } else if (dice < 14) {
            twins.call("settle", argument(conflict()));
        } else if (dice == 15 && chance.oneIn(3)) {
            twins.call("reset", commit());
        } else if (dice == 16 && chance.oneIn(3)) {
            twins.call("collect");
        } else {
            ask(ASKING[chance.upTo(ASKING.length)]);
        }
    }

    private void write() {
        String name = chance.oneIn(4) ? WRITING[chance.upTo(WRITING.length)] : "put";
        int path = chance.upTo(paths);
        int place = chance.upTo(Math.max(twins.model.size(-1, path), 0) + 1);
        switch (name) {
            case "put" -> twins.call(name, argument(path), argument(place), argument(chance.upTo(alphabet)));
            case "cut" -> twins.call(name, argument(path), argument(place));
            case "rename" -> twins.call(name, argument(path), argument(chance.upTo(12)));
            default -> twins.call(name, argument(path));
        }
    }

    private void ask(String name) {
        switch (name) {
            case "many" -> twins.call(name, argument(chance.upTo(6)));
            case "now" -> twins.call(name, argument(chance.upTo(3)));
            case "at" -> twins.call(name, argument(branch()));
            case "ofCommit" -> twins.call(name, commit(), argument(chance.upTo(6)));
            case "line" -> twins.call(name, commitOrTree(), path(), place());
            case "size" -> twins.call(name, commitOrTree(), path());
            case "conflict" -> twins.call(name, argument(conflict()), argument(chance.upTo(2)));
            case "base", "conflictsOf" -> twins.call(name, commit(), commit());
            case "went" -> twins.call(name, commit(), commit(), path());
            case "changes" -> twins.call(name, commit(), commit(), argument(chance.upTo(4)));
            case "nearness" -> twins.call(name, commit(), path(), commit(), path());
            case "origin" -> twins.call(name, commit(), path(), place());
            case "status" -> twins.call(name, path());
            default -> twins.call(name);
        }
    }

    private int branch() {
        return chance.upTo(twins.model.many(1));
    }

    private int conflict() {
        return chance.upTo(1 + twins.model.many(3));
    }

    private int path() {
        return argument(chance.upTo(paths));
    }

    private int place() {
        return argument(chance.upTo(6));
    }

    private int commitOrTree() {
        return chance.oneIn(3) ? -1 : commit();
    }

    private int commit() {
        int likely = chance.upTo(Math.max(1, twins.model.many(0)));
        return argument(likely + (chance.oneIn(8) ? chance.upTo(30) : 0));
    }

    private int argument(int fitting) {
        return chance.oneIn(wrongArguments) ? EXTREMES[chance.upTo(EXTREMES.length)] : fitting;
    }
}
