/** Promise 11, with all that the terms say of merging, blending and renames. */
public final class MergeTest {
    private static final Class<IndexOutOfBoundsException> INDEX = IndexOutOfBoundsException.class;
    private static final Class<IllegalStateException> STATE = IllegalStateException.class;

    private static final Check CHECK = new Check("MergeTest");

    public static void main(String[] args) {
        wrongCalls();
        ancestors();
        blends();
        longBlends();
        leftOut();
        renamed();
        bothNew();
        taken();
        crossed();
        CHECK.end();
    }

    private static int[][] tree(int[]... files) {
        return files;
    }

    private static int[] file(int... pathAndLines) {
        return pathAndLines;
    }

    private static void merges(String what, int[][] base, int[][] ours, int[][] theirs,
            String files, String conflicts) {
        Merges.due(CHECK, what, Stores.apart(base, ours, theirs), files, conflicts);
    }

    private static void wrongCalls() {
        Branchwork x = new Branchwork();
        CHECK.refused("11: no head", STATE, x, () -> x.merge(0));
        CHECK.refused("11: no such branch ahead of no head", INDEX, x, () -> x.merge(1));
        CHECK.refused("11: branch -1", INDEX, x, () -> x.merge(-1));
        Branchwork y = Stores.apart(tree(file(0, 1)), tree(file(0, 2)), tree(file(0, 3)));
        y.put(5, 0, 5);
        CHECK.refused("11: not clean", STATE, y, () -> y.merge(0));
        CHECK.refused("11: not clean, to itself", STATE, y, () -> y.merge(1));
        CHECK.refused("11: no such branch ahead of not clean", INDEX, y, () -> y.merge(2));
        y.remove(5);
        CHECK.due("11: clean", 1, () -> y.merge(0));
        CHECK.refused("11: being merged", STATE, y, () -> y.merge(0));
        Files.write(y, 0, 2);
        CHECK.refused("11: clean, being merged", STATE, y, () -> y.merge(0));
        CHECK.refused("11: clean, being merged, to itself", STATE, y, () -> y.merge(1));
        CHECK.compare("11: conflicts stay", "3@0", Files.showConflicts(y));
    }

    private static void ancestors() {
        Branchwork x = Files.committed(Files.file(0, 1));
        x.branch();
        CHECK.due("11: itself", -1, () -> x.merge(0));
        CHECK.due("11: at the same commit", -1, () -> x.merge(1));
        Files.write(x, 0, 2);
        x.commit(1);
        CHECK.due("11: an ancestor of head", -1, () -> x.merge(1));
        CHECK.compare("11: nothing is done", "0[2]", Files.showAll(x, -1));
        CHECK.due("11: nothing is done", 1, () -> x.now(1));
        x.change(1);
        CHECK.due("11: head is an ancestor", -2, () -> x.merge(0));
        CHECK.due("11: the branch is at it", 1, () -> x.at(1));
        CHECK.compare("11: the tree is its", "0[2]", Files.showAll(x, -1));
        CHECK.due("11: nothing is being merged", -1, () -> x.now(2));
        CHECK.due("11: no commit came to be", 2, () -> x.many(0));
        Branchwork y = Stores.apart(tree(file(0, 1)), tree(file(0, 2)), tree(file(0, 1), file(1, 1)));
        y.merge(0);
        y.commit(3);
        CHECK.due("11: a second parent is an ancestor", -1, () -> y.merge(0));
        y.change(0);
        CHECK.due("11: head is a second parent", -2, () -> y.merge(1));
    }

    private static void blends() {
        merges("only ours", tree(file(0, 1, 2, 3)), tree(file(0, 1, 9, 3)), tree(file(0, 1, 2, 3), file(5, 5)),
                "0[1 9 3] 5[5]", "");
        merges("only theirs", tree(file(0, 1, 2, 3)), tree(file(0, 1, 2, 3), file(5, 5)), tree(file(0, 1, 9, 3)),
                "0[1 9 3] 5[5]", "");
        merges("both alike", tree(file(0, 1, 2, 3)), tree(file(0, 1, 9, 3), file(5, 5)), tree(file(0, 1, 9, 3)),
                "0[1 9 3] 5[5]", "");
        merges("each elsewhere", tree(file(0, 1, 2, 3)), tree(file(0, 8, 1, 2, 3)), tree(file(0, 1, 2, 3, 9)),
                "0[8 1 2 3 9]", "");
        merges("both otherwise", tree(file(0, 1, 2, 3)), tree(file(0, 1, 8, 3)), tree(file(0, 1, 9, 3)),
                "0[1 8 9 3]", "3@0");
        merges("one cut, one otherwise", tree(file(0, 1, 2, 3)), tree(file(0, 1, 3)), tree(file(0, 1, 9, 3)),
                "0[1 9 3]", "3@0");
        merges("at the end", tree(file(0, 1)), tree(file(0, 1, 8)), tree(file(0, 1, 9)), "0[1 8 9]", "3@0");
        merges("at the beginning", tree(file(0, 1)), tree(file(0, 8, 1)), tree(file(0, 9, 1)), "0[8 9 1]", "3@0");
        merges("nothing firm", tree(file(0, 1, 2)), tree(file(0, 3)), tree(file(0, 4, 5)), "0[3 4 5]", "3@0");
        merges("cut in both, at two places", tree(file(0, 1, 2, 3, 4)), tree(file(0, 1, 3, 4)), tree(file(0, 1, 2, 3)),
                "0[1 3]", "");
        merges("all cut in one", tree(file(0, 1, 2)), tree(file(0)), tree(file(0, 1, 2), file(1, 1)), "0[] 1[1]", "");
        merges("base without lines", tree(file(0)), tree(file(0, 1)), tree(file(0, 2)), "0[1 2]", "3@0");
        merges("beside each other", tree(file(0, 1, 2)), tree(file(0, 8, 2)), tree(file(0, 1, 9)), "0[8 2 1 9]", "3@0");
        // Where the match may leave out a line of either, it leaves out that of the base: here 1, and pairs 2.
        merges("swapped in one", tree(file(0, 1, 2)), tree(file(0, 2, 1)), tree(file(0, 1, 2, 5)), "0[2 1 5]", "3@0");
        merges("equal lines", tree(file(0, 1, 2, 1)), tree(file(0, 2, 1, 1)), tree(file(0, 1, 2, 1, 7)),
                "0[2 1 1 7]", "3@0");
        merges("swapped in both", tree(file(0, 1, 2)), tree(file(0, 2, 1)), tree(file(0, 2, 1), file(3, 3)),
                "0[2 1] 3[3]", "");
    }

    private static void longBlends() {
        merges("eleven lines", tree(file(0, 0)), tree(file(0, 1, 2, 3, 4, 5, 0)), tree(file(0, 0, 6, 7, 8, 9, 10)),
                "0[1 2 3 4 5 0 6 7 8 9]", "");
        merges("in conflict behind the tenth", tree(file(0, 1, 2, 3, 4, 5, 6, 7, 8, 9)),
                tree(file(0, 10, 1, 2, 3, 4, 5, 6, 7, 8, 9)), tree(file(0, 1, 2, 3, 4, 5, 6, 7, 8, 9, 11)),
                "0[10 1 2 3 4 5 6 7 8 9]", "");
        merges("in conflict, all behind the tenth", tree(file(0, 1, 2)),
                tree(file(0, 20, 21, 22, 23, 24, 25, 26, 1, 2, 30)), tree(file(0, 1, 27, 2, 31)),
                "0[20 21 22 23 24 25 26 1 27 2]", "3@0");
    }

    private static void leftOut() {
        merges("nowhere in both", tree(file(0, 1), file(1, 1)), tree(file(1, 1)), tree(file(1, 2)), "1[2]", "");
        merges("nowhere in ours, as it was", tree(file(0, 1), file(1, 1)), tree(file(1, 1)),
                tree(file(0, 1), file(1, 2)), "1[2]", "");
        merges("nowhere in theirs, as it was", tree(file(0, 1), file(1, 1)), tree(file(0, 1), file(1, 2)),
                tree(file(1, 1)), "1[2]", "");
        merges("nowhere in ours, otherwise", tree(file(0, 1), file(1, 1)), tree(file(1, 1)),
                tree(file(0, 2), file(1, 1)), "0[2] 1[1]", "1@0");
        merges("nowhere in theirs, otherwise", tree(file(0, 1), file(1, 1)), tree(file(0, 2), file(1, 1)),
                tree(file(1, 1)), "0[2] 1[1]", "1@0");
        merges("nowhere in theirs, renamed", tree(file(0, 1), file(1, 2)), tree(file(5, 1), file(1, 2)),
                tree(file(1, 2)), "1[2] 5[1]", "1@5");
        merges("nowhere in ours, renamed", tree(file(0, 1), file(1, 2)), tree(file(1, 2)),
                tree(file(5, 1), file(1, 2)), "1[2] 5[1]", "1@5");
    }

    private static void renamed() {
        merges("renamed in ours", tree(file(0, 1, 2)), tree(file(4, 1, 2)), tree(file(0, 1, 2, 3)), "4[1 2 3]", "");
        merges("renamed in theirs", tree(file(0, 1, 2)), tree(file(0, 1, 2, 3)), tree(file(4, 1, 2)), "4[1 2 3]", "");
        merges("renamed alike", tree(file(0, 1, 2)), tree(file(4, 1, 2, 3)), tree(file(4, 0, 1, 2)), "4[0 1 2 3]", "");
        merges("renamed apart", tree(file(0, 1, 2)), tree(file(4, 1, 2)), tree(file(3, 1, 2)), "4[1 2]", "2@4");
        merges("renamed apart, with lines in conflict", tree(file(0, 1, 2)), tree(file(4, 1, 2, 8)),
                tree(file(3, 1, 2, 9)), "4[1 2 8 9]", "2@4 3@4");
        merges("renamed, with lines in conflict", tree(file(0, 1, 2)), tree(file(4, 1, 2, 8)),
                tree(file(0, 1, 2, 9)), "4[1 2 8 9]", "3@4");
        // 200 * 3 / 10 is 60, which is enough; 200 * 2 / 7 is 57, which is not.
        merges("near enough", tree(file(0, 1, 2, 3, 4, 5)), tree(file(4, 1, 2, 3, 8, 9)),
                tree(file(0, 1, 2, 3, 4, 5, 6)), "4[1 2 3 8 9 4 5 6]", "3@4");
        merges("not near enough", tree(file(0, 1, 2, 3)), tree(file(4, 1, 2, 8, 9)),
                tree(file(0, 1, 2, 3, 5)), "0[1 2 3 5] 4[1 2 8 9]", "1@0");
        merges("without lines, renamed", tree(file(0), file(1, 1)), tree(file(3), file(1, 1)),
                tree(file(0, 7), file(1, 1)), "1[1] 3[7]", "");
    }

    private static void bothNew() {
        merges("new in ours, new in theirs", tree(file(0, 1)), tree(file(0, 1), file(3, 3)),
                tree(file(0, 1), file(2, 2)), "0[1] 2[2] 3[3]", "");
        merges("new in both, alike", tree(file(0, 1)), tree(file(0, 1), file(3, 3)),
                tree(file(0, 2), file(3, 3)), "0[2] 3[3]", "");
        merges("new in both, otherwise", tree(file(0, 1)), tree(file(0, 1), file(3, 3)),
                tree(file(0, 1), file(3, 4)), "0[1] 3[3 4]", "4@3");
        merges("new in both, one without lines", tree(file(0, 1)), tree(file(0, 1), file(3)),
                tree(file(0, 1), file(3, 4)), "0[1] 3[4]", "4@3");
        merges("new in both, too long", tree(file(0, 1)), tree(file(0, 1), file(3, 1, 2, 3, 4, 5, 6)),
                tree(file(0, 1), file(3, 1, 2, 3, 4, 5, 7)), "0[1] 3[1 2 3 4 5 6 1 2 3 4]", "4@3");
    }

    private static void taken() {
        // Path 0 went to 5 in ours; theirs wrote a new file there.
        merges("new where the other one renamed to", tree(file(0, 1, 2)), tree(file(5, 1, 2)),
                tree(file(0, 1, 2), file(5, 9)), "5[1 2]", "5@5");
        merges("new in ours where theirs renamed to", tree(file(0, 1, 2)), tree(file(0, 1, 2), file(5, 9)),
                tree(file(5, 1, 2)), "5[1 2]", "5@5");
        // Both files are renamed to one path, each on its own side.
        merges("two renamed to one", tree(file(0, 1, 2), file(1, 3, 4)), tree(file(5, 1, 2), file(1, 3, 4)),
                tree(file(0, 1, 2), file(5, 3, 4)), "5[1 2]", "5@5");
        merges("taken, its lines in conflict are not told", tree(file(0, 1, 2), file(1, 3, 4)),
                tree(file(5, 1, 2), file(1, 3, 4, 8)), tree(file(0, 1, 2), file(5, 3, 4, 9)), "5[1 2]", "5@5");
        merges("taken, renamed apart is not told", tree(file(0, 1, 2), file(1, 3, 4)),
                tree(file(4, 1, 2), file(5, 3, 4)), tree(file(5, 1, 2), file(4, 3, 4)), "4[1 2] 5[3 4]", "2@4 2@5");
        merges("what is only in the other one, taken", tree(file(0, 1, 2), file(1, 3, 4)),
                tree(file(5, 1, 2)), tree(file(0, 1, 2), file(5, 3, 4)), "5[1 2]", "5@5");
        merges("what came first has its own", tree(file(0, 1, 2)), tree(file(5, 1, 2, 8)),
                tree(file(0, 1, 2, 7), file(5, 9)), "5[1 2 8 7]", "3@5 5@5");
        // Only theirs has path 0, at 5, and comes first; ours has a new file there.
        merges("new in ours, taken", tree(file(0, 1, 2), file(1, 9)), tree(file(5, 7), file(1, 9)),
                tree(file(5, 1, 2), file(1, 9)), "1[9] 5[1 2]", "1@5 5@5");
        // Path 0 went to 4 in ours and to 6 in theirs; each has a new file where the other one has that.
        merges("new in each where the other one renamed to", tree(file(0, 1, 2), file(1, 3, 4)),
                tree(file(4, 1, 2), file(1, 3, 4), file(6, 9)), tree(file(6, 1, 2), file(1, 3, 4), file(4, 8)),
                "1[3 4] 4[1 2] 6[9]", "2@4 5@4");
    }

    /** After merges in both directions the base is the greatest common ancestor, not the first one. */
    private static void crossed() {
        Branchwork x = Stores.apart(tree(file(0, 1)), tree(file(0, 1), file(1, 1)), tree(file(0, 1), file(2, 2)));
        CHECK.due("11: first merge", 0, () -> x.merge(0));
        x.commit(3);
        Files.write(x, 0, 4);
        x.commit(4);
        x.change(0);
        Files.write(x, 2, 5);
        x.commit(5);
        CHECK.due("11: the base", 2, () -> x.base(4, 5));
        CHECK.due("11: second merge", 0, () -> x.merge(1));
        CHECK.compare("11: files", "0[4] 1[1] 2[5]", Files.showAll(x, -1));
        CHECK.due("11: merged", 4, () -> x.now(2));
        x.commit(6);
        CHECK.due("11: ancestors", 7, () -> x.ofCommit(6, 4));
    }
}
