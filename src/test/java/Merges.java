/** Merges theirs, commit 2, into ours, commit 1, and tells whether all is as due. */
final class Merges {
    private Merges() {
    }

    static void due(Check check, String what, Branchwork x, String files, String conflicts) {
        int want = conflicts.isEmpty() ? 0 : conflicts.split(" ").length;
        check.due("11: conflicts, " + what, want, () -> x.conflictsOf(1, 2));
        check.due("11: merge, " + what, want, () -> x.merge(0));
        check.compare("11: files, " + what, files, Files.showAll(x, -1));
        check.compare("11: conflicts, " + what, conflicts, Files.showConflicts(x));
        check.due("11: being merged, " + what, 2, () -> x.now(2));
        check.due("11: head stays, " + what, 1, () -> x.now(1));
    }
}
