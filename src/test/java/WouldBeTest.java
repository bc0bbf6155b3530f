/** Promises 26 to 29: what would be. */
public final class WouldBeTest {
    private static final Class<IndexOutOfBoundsException> INDEX = IndexOutOfBoundsException.class;

    private static final Check CHECK = new Check("WouldBeTest");

    public static void main(String[] args) {
        promise26();
        promise27();
        promise28();
        promise29();
        promise29Steps();
        CHECK.end();
    }

    private static Branchwork apart() {
        Branchwork x = Files.committed(Files.file(0, 1), Files.file(1, 1));
        x.branch();
        Files.write(x, 0, 2);
        Files.write(x, 1, 2);
        Files.write(x, 2, 2);
        x.commit(1);
        x.change(1);
        Files.write(x, 0, 3);
        x.remove(1);
        Files.write(x, 2, 3);
        x.commit(2);
        return x;
    }

    private static void promise26() {
        Branchwork x = apart();
        long before = x.digest();
        CHECK.due("26: lines, left out, both new", 3, () -> x.conflictsOf(1, 2));
        CHECK.due("26: the other way", 3, () -> x.conflictsOf(2, 1));
        CHECK.due("26: with itself", 0, () -> x.conflictsOf(1, 1));
        CHECK.due("26: an ancestor", 0, () -> x.conflictsOf(0, 1));
        CHECK.due("26: of an ancestor", 0, () -> x.conflictsOf(1, 0));
        CHECK.due("26: nothing is changed", before, x::digest);
        CHECK.due("26: nothing is being merged", -1, () -> x.now(2));
        CHECK.due("26: no conflicts", 0, () -> x.many(3));
        CHECK.refused("26: a", INDEX, x, () -> x.conflictsOf(3, 0));
        CHECK.refused("26: b", INDEX, x, () -> x.conflictsOf(0, 3));
        CHECK.refused("26: -1", INDEX, x, () -> x.conflictsOf(-1, 0));
        CHECK.refused("26: -1", INDEX, x, () -> x.conflictsOf(0, -1));
        CHECK.due("26: merge tells as many", 3, () -> x.merge(0));
        CHECK.due("26: while being merged", 0, () -> x.conflictsOf(0, 0));
        CHECK.compare("26: the conflicts of the merge stay", "3@0 1@1 4@2", Files.showConflicts(x));
        x.reset(0);
        x.collect();
        CHECK.refused("26: gone", INDEX, x, () -> x.conflictsOf(0, 2));
    }

    private static void promise27() {
        Branchwork x = new Branchwork();
        CHECK.due("27: a new object", 0, x::garbage);
        Branchwork y = apart();
        CHECK.due("27: all are reached", 0, y::garbage);
        y.reset(0);
        CHECK.due("27: a commit, a tree, a content", 3, y::garbage);
        CHECK.due("27: nothing is changed", 3, () -> y.many(0));
        CHECK.due("27: as many as collect", 3, y::collect);
        CHECK.due("27: none left", 0, y::garbage);
        Branchwork z = Files.committed(Files.file(0, 1));
        Files.write(z, 0, 2);
        z.commit(0);
        Files.write(z, 0, 1);
        z.commit(0);
        Files.write(z, 0, 3);
        z.commit(0);
        z.reset(0);
        CHECK.due("27: three commits, two trees, two contents", 7, z::garbage);
    }

    private static void promise28() {
        Branchwork x = new Branchwork();
        x.put(0, 0, 1);
        CHECK.dueDouble("28: none", 0.0, x::meanLines);
        x.commit(0);
        CHECK.dueDouble("28: one", 1.0, x::meanLines);
        Files.write(x, 1, 1, 2);
        Files.write(x, 2, 1, 2);
        x.commit(0);
        CHECK.dueDouble("28: each counted once, not cut", 1.5, x::meanLines);
        Files.write(x, 3);
        x.commit(0);
        CHECK.dueDouble("28: one without lines", 1.0, x::meanLines);
        Files.write(x, 3, 5, 6, 7, 8);
        x.commit(0);
        CHECK.dueDouble("28: of older commits too", 7.0 / 4.0, x::meanLines);
        Files.write(x, 4, 1, 1, 1);
        Files.write(x, 5, 1, 1, 1, 1, 1);
        x.commit(0);
        CHECK.dueDouble("28: a sixth", 15.0 / 6.0, x::meanLines);
        x.reset(0);
        CHECK.dueDouble("28: not gone yet", 15.0 / 6.0, x::meanLines);
        x.collect();
        CHECK.dueDouble("28: gone", 1.0, x::meanLines);
        Branchwork y = new Branchwork();
        y.put(0, 0, 1);
        y.commit(0);
        y.remove(0);
        y.commit(0);
        CHECK.dueDouble("28: a tree without files adds nothing", 1.0, y::meanLines);
    }

    /** The numbers of a new object, by hand. */
    private static void promise29() {
        long d = 58087;
        int[] many = {0, 1, 0, 0, 0, 0};
        int[] now = {0, -1, -1};
        for (int x : many) {
            d = d * 31 + x;
        }
        for (int x : now) {
            d = d * 31 + x;
        }
        d = d * 31 - 1;
        for (int path = 0; path < 12; path++) {
            d = d * 31;
        }
        for (int path = 0; path < 12; path++) {
            d = d * 31 - 1;
        }
        long want = d * 31;
        CHECK.due("29: a new object", want, () -> new Branchwork().digest());
    }

    private static void promise29Steps() {
        Branchwork x = new Branchwork();
        CHECK.due("29: step 0", told(x), x::digest);
        x.put(3, 0, 7);
        CHECK.due("29: a file", told(x), x::digest);
        x.commit(5);
        CHECK.due("29: a commit", told(x), x::digest);
        String[] steps = {"two branches", "being merged", "one settled", "set back", "collected"};
        for (int i = 0; i < steps.length; i++) {
            Branchwork y = afterSteps(i);
            CHECK.due("29: " + steps[i], told(y), y::digest);
        }
    }

    /** Each time anew, as telling all takes many of the 512 calls. */
    private static Branchwork afterSteps(int steps) {
        Branchwork x = apart();
        if (steps >= 1) {
            x.merge(0);
        }
        if (steps >= 2) {
            x.settle(1);
        }
        if (steps >= 3) {
            x.reset(0);
        }
        if (steps >= 4) {
            x.collect();
        }
        return x;
    }

    /** The digest out of what the other calls answer. */
    private static long told(Branchwork x) {
        java.util.List<Integer> numbers = new java.util.ArrayList<>();
        for (int what = 0; what <= 5; what++) {
            numbers.add(x.many(what));
        }
        for (int what = 0; what <= 2; what++) {
            numbers.add(x.now(what));
        }
        for (int branch = 0; branch < x.many(1); branch++) {
            numbers.add(x.at(branch));
        }
        for (int path = 0; path < 12; path++) {
            numbers.add(x.status(path));
        }
        addFiles(numbers, x, -1);
        for (int commit = 0; commit < 30; commit++) {
            int asked = commit;
            if (!Check.outcome(() -> x.ofCommit(asked, 0)).equals("IndexOutOfBoundsException")) {
                numbers.add(commit);
                for (int what = 0; what <= 5; what++) {
                    numbers.add(x.ofCommit(commit, what));
                }
                addFiles(numbers, x, commit);
            }
        }
        for (int conflict = 0; conflict < x.many(3); conflict++) {
            numbers.add(x.conflict(conflict, 0));
            numbers.add(x.conflict(conflict, 1));
        }
        numbers.add(x.garbage());
        long d = 58087;
        for (int number : numbers) {
            d = d * 31 + number;
        }
        return d;
    }

    private static void addFiles(java.util.List<Integer> numbers, Branchwork x, int commit) {
        for (int path = 0; path < 12; path++) {
            numbers.add(x.size(commit, path));
            for (int place = 0; place < x.size(commit, path); place++) {
                numbers.add(x.line(commit, path, place));
            }
        }
    }
}
