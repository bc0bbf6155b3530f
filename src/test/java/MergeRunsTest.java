import java.util.TreeMap;

/** Two branches that go apart, with renames, and are merged, time and again, on the class and on the model. */
public final class MergeRunsTest {
    private static final int RUNS = 2500;
    private static final int CALLS = 500;

    private final Chance chance;
    private final Twins twins;
    private final int alphabet;
    private final int edits;

    private MergeRunsTest(Twins twins, Chance chance) {
        this.twins = twins;
        this.chance = chance;
        alphabet = 2 + (chance.oneIn(2) ? chance.upTo(6) : chance.upTo(98));
        edits = 2 + chance.upTo(14);
    }

    public static void main(String[] args) {
        Check check = new Check("MergeRunsTest");
        TreeMap<String, Integer> seen = new TreeMap<>();
        Chance chance = new Chance(58087L);
        Twins twins = new Twins(check, seen);
        for (int run = 0; run < RUNS && !check.isWrong(); run++) {
            twins = new Twins(check, seen);
            new MergeRunsTest(twins, chance).run();
        }
        twins.wasMet("conflict code 1", "conflict code 2", "conflict code 3", "conflict code 4", "conflict code 5",
                "merge with conflicts", "merge 0", "went tells 0 or more", "went tells -1",
                "changes tells 0", "changes tells 1", "changes tells 2", "changes tells 3");
        check.end();
    }

    private void run() {
        begin();
        while (twins.calls() < CALLS - 180 && twins.model.many(0) < 27) {
            edit();
            twins.call("commit", 1);
            twins.call("change", 1 - twins.model.now(0));
            edit();
            twins.call("commit", 2);
            compareTips();
            twins.call("merge", 1 - twins.model.now(0));
            finishMerge();
        }
        askOrigins();
        twins.call("digest");
    }

    private void begin() {
        int files = 1 + chance.upTo(9);
        for (int i = 0; i < files; i++) {
            int path = chance.upTo(12);
            int lines = 1 + chance.upTo(6);
            for (int place = 0; place < lines; place++) {
                twins.call("put", path, 0, chance.upTo(alphabet));
            }
        }
        twins.call("commit", 0);
        twins.call("branch");
    }

    private void edit() {
        for (int i = 0; i < edits; i++) {
            int path = chance.upTo(12);
            int size = twins.model.size(-1, path);
            int dice = chance.upTo(12);
            if (size < 0) {
                if (dice < 2) {
                    twins.call("put", path, 0, chance.upTo(alphabet));
                }
            } else if (dice < 3) {
                twins.call("put", path, chance.upTo(size + 1), chance.upTo(alphabet));
            } else if (dice < 6) {
                twins.call("cut", path, chance.upTo(size + 1));
            } else if (dice < 11) {
                twins.call("rename", path, chance.upTo(12));
            } else {
                twins.call("remove", path);
            }
        }
    }

    private void compareTips() {
        int ours = twins.model.at(0);
        int theirs = twins.model.at(1);
        twins.call("base", ours, theirs);
        twins.call("conflictsOf", ours, theirs);
        twins.call("conflictsOf", theirs, ours);
        for (int what = 0; what <= 3; what++) {
            twins.call("changes", ours, theirs, what);
        }
        for (int path = 0; path < 12; path++) {
            twins.call("went", ours, theirs, path);
        }
    }

    private void finishMerge() {
        twins.call("digest");
        while (twins.model.many(3) > 0) {
            int conflict = chance.upTo(twins.model.many(3));
            twins.call("conflict", conflict, 0);
            twins.call("conflict", conflict, 1);
            twins.call("settle", conflict);
        }
        twins.call("commit", 3);
        if (chance.oneIn(3)) {
            twins.call("reset", chance.upTo(twins.model.many(0)));
        }
        twins.call("garbage");
        if (chance.oneIn(5)) {
            twins.call("collect");
        }
    }

    private void askOrigins() {
        int head = twins.model.now(1);
        for (int path = 0; path < 12; path++) {
            for (int place = 0; place < twins.model.size(head, path); place++) {
                twins.call("origin", head, path, place);
            }
        }
    }
}
