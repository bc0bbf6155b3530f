/** The bounds that promises 7 to 13 name, and those that the terms set to commits and branches. */
public final class CommitBoundsTest {
    private static final Class<IndexOutOfBoundsException> INDEX = IndexOutOfBoundsException.class;
    private static final Class<IllegalArgumentException> ARGUMENT = IllegalArgumentException.class;
    private static final Class<IllegalStateException> STATE = IllegalStateException.class;

    private static final Check CHECK = new Check("CommitBoundsTest");

    public static void main(String[] args) {
        commitNote();
        commitMost();
        commitMostEver();
        commitMostMerging();
        commitUnsettled();
        commitClean();
        commitMerged();
        commitFirstNamed();
        commitParents();
        branchWithoutHead();
        branchMost();
        branchWhileMerging();
        changeBranch();
        changeNotClean();
        changeMerging();
        changeReturns();
        resetCommit();
        resetGone();
        resetMerging();
        resetReturns();
        mergeBranch();
        mergeWithoutHead();
        mergeNotClean();
        mergeMerging();
        mergeNothing();
        mergeAhead();
        mergeFull();
        mergeMostConflicts();
        settleConflict();
        settleNumbers();
        collectNothing();
        collectLess();
        collectMerging();
        collectGone();
        CHECK.end();
    }

    /** "a NOTE, 0 to 999"; "IllegalArgumentException if note is not 0 to 999" */
    private static void commitNote() {
        Branchwork x = new Branchwork();
        x.put(0, 0, 1);
        CHECK.refusedEach("7: note", ARGUMENT, x, Edges.NO_NOTE, x::commit);
        CHECK.due("7: note 0; a refused one takes no number", 0, () -> x.commit(0));
        x.put(0, 0, 1);
        CHECK.due("7: note 999", 1, () -> x.commit(999));
        CHECK.due("7: the smallest note", 0, () -> x.ofCommit(0, 2));
        CHECK.due("7: the greatest note", 999, () -> x.ofCommit(1, 2));
    }

    /** "at most 30 ever, numbered from 0"; "IllegalStateException if there were 30" */
    private static void commitMost() {
        Branchwork x = new Branchwork();
        for (int i = 0; i < 30; i++) {
            int number = i;
            x.put(i % 12, 0, i);
            CHECK.due("7: commit " + i, i, () -> x.commit(number));
        }
        x.put(0, 0, 99);
        CHECK.refused("7: there were 30", STATE, x, () -> x.commit(0));
        CHECK.due("7: commits", 30, () -> x.many(0));
        CHECK.due("7: head", 29, () -> x.now(1));
        CHECK.refused("7: no commit 30", INDEX, x, () -> x.ofCommit(30, 0));
        CHECK.due("7: what was not taken can still be changed", 3, () -> x.cut(0, 0));
    }

    /** Of 30 that there were, those that are GONE count as well. */
    private static void commitMostEver() {
        Branchwork x = Stores.full();
        x.change(1);
        for (int branch = 0; branch < 5; branch++) {
            x.change(branch);
            x.reset(0);
        }
        CHECK.due("7: 29 commits and trees are gone, each with a content", 87, x::collect);
        CHECK.due("7: commits", 1, () -> x.many(0));
        x.remove(0);
        CHECK.refused("7: there were 30", STATE, x, () -> x.commit(0));
        CHECK.refused("7: commit 29 is gone", INDEX, x, () -> x.reset(29));
    }

    /** A merge of two branches in a store that is full can be begun, but not committed. */
    private static void commitMostMerging() {
        Branchwork x = Stores.line("0[1]");
        x.branch();
        for (int i = 1; i < 29; i++) {
            x.put(i % 11, 0, i);
            x.commit(0);
        }
        x.change(1);
        x.put(11, 0, 1);
        CHECK.due("7: the thirtieth", 29, () -> x.commit(0));
        CHECK.due("7: a merge without conflicts", 0, () -> x.merge(0));
        CHECK.refused("7: there were 30", STATE, x, () -> x.commit(0));
        CHECK.due("7: it is still being merged", 28, () -> x.now(2));
        CHECK.due("7: set back", 29, () -> x.reset(29));
        CHECK.due("7: nothing is being merged", -1, () -> x.now(2));
    }

    /** "IllegalStateException if ... CONFLICTS are not settled" */
    private static void commitUnsettled() {
        Branchwork x = Stores.merging();
        for (int left = 3; left > 0; left--) {
            CHECK.refused("7: conflicts left " + left, STATE, x, () -> x.commit(0));
            CHECK.due("7: one less", left - 1, () -> x.settle(0));
        }
        CHECK.due("7: none left", 3, () -> x.commit(0));
        Branchwork y = Stores.merging();
        Stores.become(y, Files.tree("5[5]"));
        CHECK.refused("7: a conflict whose file is taken out is not settled", STATE, y, () -> y.commit(0));
    }

    /** "IllegalStateException if ... the WORKING TREE is CLEAN, and nothing is being MERGED" */
    private static void commitClean() {
        Branchwork x = new Branchwork();
        CHECK.refused("7: clean in a new object", STATE, x, () -> x.commit(0));
        x.put(0, 0, 1);
        x.commit(0);
        CHECK.refused("7: clean", STATE, x, () -> x.commit(0));
        x.put(0, 1, 1);
        CHECK.due("7: not clean; a refused one takes no number", 1, () -> x.commit(0));
        CHECK.refused("7: clean again", STATE, x, () -> x.commit(0));
        Branchwork y = Stores.merging();
        for (int i = 0; i < 3; i++) {
            y.settle(0);
        }
        Stores.become(y, Files.tree("0[3] 2[3]"));
        CHECK.due("7: clean, but being merged", 3, () -> y.commit(0));
        CHECK.refused("7: clean, and not being merged any more", STATE, y, () -> y.commit(0));
    }

    /** "what is being MERGED, if anything is (it is not any more then). The CURRENT BRANCH is at it then." */
    private static void commitMerged() {
        Branchwork x = Stores.apart("0[1]", "1[1]", "0[1] 2[2]");
        x.merge(0);
        CHECK.due("7: not clean, and being merged", 3, () -> x.commit(7));
        CHECK.due("7: first parent", 1, () -> x.ofCommit(3, 0));
        CHECK.due("7: second parent", 2, () -> x.ofCommit(3, 1));
        CHECK.due("7: nothing is being merged", -1, () -> x.now(2));
        CHECK.due("7: the current branch", 3, () -> x.at(1));
        CHECK.due("7: the other branch", 2, () -> x.at(0));
        x.put(0, 0, 5);
        CHECK.due("7: the next one", 4, () -> x.commit(7));
        CHECK.due("7: has one parent", -1, () -> x.ofCommit(4, 1));
    }

    private static void commitFirstNamed() {
        Branchwork x = new Branchwork();
        CHECK.refused("7: no note, clean", ARGUMENT, x, () -> x.commit(1000));
        Branchwork y = Stores.full();
        CHECK.refused("7: no note, there were 30, clean", ARGUMENT, y, () -> y.commit(-1));
        CHECK.refused("7: there were 30, clean", STATE, y, () -> y.commit(999));
        Branchwork z = Stores.merging();
        CHECK.refused("7: no note, conflicts", ARGUMENT, z, () -> z.commit(-1));
    }

    /** "0, 1 or 2 PARENTS, which have smaller numbers" */
    private static void commitParents() {
        Branchwork x = Stores.full();
        CHECK.due("7: the first one has no first parent", -1, () -> x.ofCommit(0, 0));
        for (int i = 0; i < 30; i++) {
            int number = i;
            CHECK.due("7: first parent of " + i, i - 1, () -> x.ofCommit(number, 0));
            CHECK.due("7: second parent of " + i, -1, () -> x.ofCommit(number, 1));
        }
    }

    /** "IllegalStateException if there is no HEAD" */
    private static void branchWithoutHead() {
        Branchwork x = new Branchwork();
        CHECK.refused("8: no head", STATE, x, x::branch);
        x.put(0, 0, 1);
        CHECK.refused("8: no head, a file", STATE, x, x::branch);
        x.commit(0);
        CHECK.due("8: a head", 1, x::branch);
        CHECK.due("8: at head", 0, () -> x.at(1));
    }

    /** "BRANCHES: at most 5, numbered from 0"; "IllegalStateException if ... there are 5" */
    private static void branchMost() {
        Branchwork x = Stores.line("0[1]");
        for (int i = 1; i < 5; i++) {
            CHECK.due("8: branch " + i, i, x::branch);
            int branches = i + 1;
            CHECK.due("8: branches", branches, () -> x.many(1));
        }
        CHECK.refused("8: there are 5", STATE, x, x::branch);
        CHECK.refused("8: no branch 5", INDEX, x, () -> x.at(5));
        x.collect();
        CHECK.refused("8: there are still 5", STATE, x, x::branch);
    }

    /** Only a missing HEAD and a sixth BRANCH are refused. */
    private static void branchWhileMerging() {
        Branchwork x = Stores.merging();
        CHECK.due("8: while being merged", 2, x::branch);
        CHECK.due("8: at head", 1, () -> x.at(2));
        CHECK.due("8: it is still being merged", 2, () -> x.now(2));
        CHECK.due("8: the conflicts stay", 3, () -> x.many(3));
        CHECK.due("8: the current branch stays", 1, () -> x.now(0));
    }

    /** "IndexOutOfBoundsException if there is no such BRANCH" */
    private static void changeBranch() {
        Branchwork x = new Branchwork();
        CHECK.refused("9: no branch 1 in a new object", INDEX, x, () -> x.change(1));
        CHECK.refusedEach("9: branch", INDEX, x, Edges.NEVER_A_BRANCH, x::change);
        CHECK.due("9: branch 0 without a head", 0, () -> x.change(0));
        Branchwork y = Stores.full();
        CHECK.refusedEach("9: branch", INDEX, y, Edges.NEVER_A_BRANCH, y::change);
        CHECK.due("9: branch 4", 0, () -> y.change(4));
        CHECK.due("9: branch 0", 4, () -> y.change(0));
        Branchwork z = Stores.merging();
        CHECK.refused("9: no such branch ahead of not clean and being merged", INDEX, z, () -> z.change(2));
        CHECK.refused("9: branch -1 ahead of not clean and being merged", INDEX, z, () -> z.change(-1));
    }

    /** "IllegalStateException if the WORKING TREE is not CLEAN" */
    private static void changeNotClean() {
        Branchwork x = new Branchwork();
        x.put(0, 0, 1);
        CHECK.refused("9: not clean without a head", STATE, x, () -> x.change(0));
        x.commit(0);
        x.branch();
        x.put(11, 0, 1);
        x.cut(11, 0);
        CHECK.refused("9: a file without lines more", STATE, x, () -> x.change(1));
        CHECK.refused("9: to itself", STATE, x, () -> x.change(0));
        x.remove(11);
        CHECK.due("9: clean again", 0, () -> x.change(1));
    }

    /** "IllegalStateException if ... something is being MERGED" */
    private static void changeMerging() {
        Branchwork x = Stores.merging();
        CHECK.refused("9: not clean, and being merged", STATE, x, () -> x.change(0));
        Stores.become(x, Files.tree("0[3] 2[3]"));
        CHECK.refused("9: clean, but being merged", STATE, x, () -> x.change(0));
        CHECK.refused("9: clean, but being merged, to itself", STATE, x, () -> x.change(1));
        for (int i = 0; i < 3; i++) {
            x.settle(0);
        }
        CHECK.refused("9: clean and settled, but being merged", STATE, x, () -> x.change(0));
        x.reset(1);
        CHECK.due("9: not being merged any more", 1, () -> x.change(0));
    }

    /** "the WORKING TREE becomes that of its COMMIT"; "Returns the one before." */
    private static void changeReturns() {
        Branchwork x = Stores.line("0[1]");
        for (int i = 1; i < 5; i++) {
            x.branch();
        }
        for (int branch = 1; branch < 5; branch++) {
            int asked = branch;
            CHECK.due("9: the one before " + branch, branch - 1, () -> x.change(asked));
            Stores.commit(x, 0, new int[] {branch, branch});
        }
        CHECK.due("9: to itself", 4, () -> x.change(4));
        CHECK.due("9: to the first one", 4, () -> x.change(0));
        CHECK.compare("9: its tree", "0[1]", Files.showAll(x, -1));
        CHECK.due("9: to another one", 0, () -> x.change(3));
        CHECK.compare("9: its tree", "3[3]", Files.showAll(x, -1));
    }

    /** "IndexOutOfBoundsException if there is no such COMMIT" */
    private static void resetCommit() {
        Branchwork x = new Branchwork();
        CHECK.refused("10: no commit in a new object", INDEX, x, () -> x.reset(0));
        CHECK.refused("10: no head is no commit", INDEX, x, () -> x.reset(-1));
        x.put(0, 0, 1);
        CHECK.refused("10: the working tree is no commit", INDEX, x, () -> x.reset(-1));
        x.commit(0);
        CHECK.refused("10: commit 1 of 1", INDEX, x, () -> x.reset(1));
        CHECK.refused("10: commit -1", INDEX, x, () -> x.reset(-1));
        CHECK.due("10: commit 0 of 1", 0, () -> x.reset(0));
        Branchwork y = Stores.full();
        CHECK.refused("10: commit -1 of 30", INDEX, y, () -> y.reset(-1));
        CHECK.refusedEach("10: commit", INDEX, y, Edges.NEVER_A_COMMIT, y::reset);
        CHECK.due("10: commit 29", 29, () -> y.reset(29));
        CHECK.due("10: commit 0", 29, () -> y.reset(0));
        CHECK.due("10: one that nobody reaches less", 0, () -> y.reset(28));
    }

    private static void resetGone() {
        Branchwork x = Stores.collected();
        CHECK.refused("10: gone", INDEX, x, () -> x.reset(1));
        CHECK.due("10: not gone", 3, () -> x.reset(2));
        CHECK.due("10: not gone", 2, () -> x.reset(3));
        CHECK.due("10: not gone", 3, () -> x.reset(0));
    }

    /** "CLEAN or not, ... nothing is being MERGED any more, and there are no CONFLICTS" */
    private static void resetMerging() {
        Branchwork x = Stores.merging();
        CHECK.due("10: to head itself", 1, () -> x.reset(1));
        CHECK.due("10: nothing is being merged", -1, () -> x.now(2));
        CHECK.due("10: no conflicts", 0, () -> x.many(3));
        CHECK.refused("10: no conflict is left", INDEX, x, () -> x.settle(0));
        CHECK.compare("10: its tree", "0[3] 2[3]", Files.showAll(x, -1));
        CHECK.refused("10: clean", STATE, x, () -> x.commit(0));
        Stores.become(x, Files.tree("9[9]"));
        CHECK.due("10: not clean", 1, () -> x.reset(1));
        CHECK.compare("10: its tree", "0[3] 2[3]", Files.showAll(x, -1));
        CHECK.due("10: to what was being merged", 1, () -> x.reset(2));
        CHECK.compare("10: its tree", "0[2] 1[2] 2[2]", Files.showAll(x, -1));
    }

    /** "Returns HEAD before" */
    private static void resetReturns() {
        Branchwork x = Stores.line("0[0]", "0[1]", "0[2]");
        int[] to = {0, 2, 1, 1, 0, 0, 2};
        int before = 2;
        for (int commit : to) {
            CHECK.due("10: head before", before, () -> x.reset(commit));
            CHECK.due("10: head", commit, () -> x.now(1));
            CHECK.compare("10: the tree", "0[" + commit + "]", Files.showAll(x, -1));
            before = commit;
        }
    }

    /** "IndexOutOfBoundsException if there is no such BRANCH" */
    private static void mergeBranch() {
        Branchwork x = new Branchwork();
        CHECK.refused("11: no such branch ahead of no head", INDEX, x, () -> x.merge(1));
        CHECK.refusedEach("11: branch", INDEX, x, Edges.NEVER_A_BRANCH, x::merge);
        Branchwork y = Stores.full();
        CHECK.refusedEach("11: branch", INDEX, y, Edges.NEVER_A_BRANCH, y::merge);
        CHECK.due("11: branch 4", -1, () -> y.merge(4));
        CHECK.due("11: branch 0", -1, () -> y.merge(0));
        y.remove(0);
        CHECK.refused("11: no such branch ahead of not clean", INDEX, y, () -> y.merge(5));
        Branchwork z = Stores.merging();
        CHECK.refused("11: no such branch ahead of being merged", INDEX, z, () -> z.merge(2));
    }

    /** "IllegalStateException if there is no HEAD" */
    private static void mergeWithoutHead() {
        Branchwork x = new Branchwork();
        CHECK.refused("11: no head", STATE, x, () -> x.merge(0));
        x.put(0, 0, 1);
        CHECK.refused("11: no head, not clean", STATE, x, () -> x.merge(0));
        x.commit(0);
        CHECK.due("11: a head", -1, () -> x.merge(0));
    }

    /** "IllegalStateException if ... the WORKING TREE is not CLEAN" */
    private static void mergeNotClean() {
        Branchwork x = Stores.apart("0[1]", "0[1] 1[1]", "0[1] 2[2]");
        x.put(11, 0, 1);
        x.cut(11, 0);
        CHECK.refused("11: a file without lines more", STATE, x, () -> x.merge(0));
        CHECK.refused("11: not clean, an ancestor", STATE, x, () -> x.merge(1));
        x.remove(11);
        x.cut(1, 0);
        CHECK.refused("11: a line less", STATE, x, () -> x.merge(0));
        x.put(1, 0, 1);
        CHECK.due("11: clean", 0, () -> x.merge(0));
        Branchwork y = Stores.line("0[1]", "0[2]");
        y.branch();
        y.reset(0);
        y.put(11, 0, 1);
        CHECK.refused("11: not clean, head is an ancestor", STATE, y, () -> y.merge(1));
        y.remove(11);
        CHECK.due("11: clean, head is an ancestor", -2, () -> y.merge(1));
    }

    /** "IllegalStateException if ... something is being MERGED" */
    private static void mergeMerging() {
        Branchwork x = Stores.merging();
        Stores.become(x, Files.tree("0[3] 2[3]"));
        CHECK.refused("11: clean, but being merged", STATE, x, () -> x.merge(0));
        CHECK.refused("11: clean, but being merged, to itself", STATE, x, () -> x.merge(1));
        for (int i = 0; i < 3; i++) {
            x.settle(0);
        }
        CHECK.refused("11: clean and settled, but being merged", STATE, x, () -> x.merge(0));
        x.commit(0);
        CHECK.due("11: committed", -1, () -> x.merge(0));
    }

    /** "If its COMMIT is an ANCESTOR of HEAD, nothing is done." A COMMIT is one of itself. */
    private static void mergeNothing() {
        Branchwork x = Stores.line("0[0]");
        x.branch();
        Stores.commit(x, 0, Files.tree("0[1]"));
        x.branch();
        Stores.commit(x, 0, Files.tree("0[2]"));
        for (int branch = 0; branch < 3; branch++) {
            int asked = branch;
            long before = x.digest();
            CHECK.due("11: an ancestor, branch " + branch, -1, () -> x.merge(asked));
            CHECK.due("11: nothing is done", before, x::digest);
        }
        Branchwork y = Stores.merging();
        for (int i = 0; i < 3; i++) {
            y.settle(0);
        }
        y.commit(0);
        long before = y.digest();
        CHECK.due("11: an ancestor as second parent", -1, () -> y.merge(0));
        CHECK.due("11: nothing is done", before, y::digest);
    }

    /** "If HEAD is an ANCESTOR of it, the CURRENT BRANCH is at it then, and the WORKING TREE becomes that of it." */
    private static void mergeAhead() {
        Branchwork x = Stores.line("0[0]", "0[1]", "5[5]");
        x.branch();
        x.reset(0);
        CHECK.due("11: head is an ancestor over two", -2, () -> x.merge(1));
        CHECK.due("11: the current branch is at it", 2, () -> x.at(0));
        CHECK.compare("11: its tree", "5[5]", Files.showAll(x, -1));
        CHECK.due("11: nothing is being merged", -1, () -> x.now(2));
        CHECK.due("11: no conflicts", 0, () -> x.many(3));
        CHECK.due("11: no commit more", 3, () -> x.many(0));
        CHECK.due("11: the current branch stays", 0, () -> x.now(0));
        CHECK.due("11: once more", -1, () -> x.merge(1));
        CHECK.refused("11: clean", STATE, x, () -> x.commit(0));
    }

    /** A full store takes no commit, but a merge that makes none. */
    private static void mergeFull() {
        Branchwork x = Stores.full();
        x.reset(0);
        CHECK.due("11: over 29", -2, () -> x.merge(4));
        CHECK.due("11: head", 29, () -> x.now(1));
        x.change(4);
        x.reset(28);
        CHECK.due("11: over 1", -2, () -> x.merge(0));
    }

    /** All 12 files in conflict; there can be no more. */
    private static void mergeMostConflicts() {
        StringBuilder base = new StringBuilder();
        StringBuilder ours = new StringBuilder();
        StringBuilder theirs = new StringBuilder();
        StringBuilder want = new StringBuilder();
        for (int path = 0; path < 12; path++) {
            String space = path == 0 ? "" : " ";
            base.append(space).append(path).append("[1]");
            ours.append(space).append(path).append("[2]");
            theirs.append(space).append(path).append("[3]");
            want.append(space).append("3@").append(path);
        }
        Branchwork x = Stores.apart(base.toString(), ours.toString(), theirs.toString());
        CHECK.due("11: 12 files", 12, () -> x.merge(0));
        CHECK.compare("11: in the order in which they come to be", want.toString(), Files.showConflicts(x));
        for (int left = 11; left >= 0; left--) {
            int number = left;
            CHECK.refused("12: behind the last", INDEX, x, () -> x.settle(number + 1));
            CHECK.due("12: the last", left, () -> x.settle(number));
        }
        CHECK.due("12: all settled", 3, () -> x.commit(0));
        Branchwork y = Stores.mostConflicts();
        CHECK.due("11: two for each of six files", 12, () -> y.merge(0));
        CHECK.compare("11: 2 ahead of 3", "2@6 3@6 2@7 3@7 2@8 3@8 2@9 3@9 2@10 3@10 2@11 3@11",
                Files.showConflicts(y));
    }

    /** "IndexOutOfBoundsException if there is no such CONFLICT" */
    private static void settleConflict() {
        Branchwork x = new Branchwork();
        CHECK.refused("12: none in a new object", INDEX, x, () -> x.settle(0));
        CHECK.refusedEach("12: none in a new object", INDEX, x, Edges.NEVER_A_CONFLICT, x::settle);
        Branchwork y = Stores.merging();
        CHECK.refused("12: conflict 3 of 3", INDEX, y, () -> y.settle(3));
        CHECK.refusedEach("12: conflict", INDEX, y, Edges.NEVER_A_CONFLICT, y::settle);
        CHECK.due("12: conflict 2 of 3", 2, () -> y.settle(2));
        CHECK.refused("12: conflict 2 of 2", INDEX, y, () -> y.settle(2));
        CHECK.due("12: conflict 0 of 2", 1, () -> y.settle(0));
        CHECK.due("12: conflict 0 of 1", 0, () -> y.settle(0));
        CHECK.refused("12: none left", INDEX, y, () -> y.settle(0));
        Branchwork z = Stores.apart("0[1]", "0[1] 1[1]", "0[1] 2[2]");
        z.merge(0);
        CHECK.refused("12: being merged without conflicts", INDEX, z, () -> z.settle(0));
    }

    /** "its number, from 0; those behind it have one less by 1 then" */
    private static void settleNumbers() {
        String[] want = {"1@1 4@2", "3@0 4@2", "3@0 1@1"};
        for (int number = 0; number < 3; number++) {
            int asked = number;
            Branchwork x = Stores.merging();
            CHECK.due("12: settled " + number, 2, () -> x.settle(asked));
            CHECK.compare("12: left without " + number, want[number], Files.showConflicts(x));
            CHECK.due("12: it is still being merged", 2, () -> x.now(2));
        }
    }

    /** "Returns how many OBJECTS there are less than before." */
    private static void collectNothing() {
        Branchwork x = new Branchwork();
        CHECK.due("13: a new object", 0, x::collect);
        x.put(0, 0, 1);
        CHECK.due("13: the working tree is no object", 0, x::collect);
        CHECK.compare("13: and stays", "0[1]", Files.showAll(x, -1));
        x.commit(0);
        CHECK.due("13: reached", 0, x::collect);
        Branchwork y = Stores.full();
        CHECK.due("13: 30 reached", 0, y::collect);
        CHECK.due("13: 30 stay", 30, () -> y.many(0));
        CHECK.due("13: the first one stays", -1, () -> y.ofCommit(0, 0));
    }

    private static void collectLess() {
        Branchwork x = Stores.line("0[1] 1[2]", "0[1] 1[3]", "0[1] 1[2]", "");
        x.reset(2);
        CHECK.due("13: a commit, and a tree without files", 2, x::collect);
        x.reset(1);
        CHECK.due("13: a commit whose tree another one has", 1, x::collect);
        x.reset(0);
        CHECK.due("13: a commit, its tree, and a content", 3, x::collect);
        CHECK.due("13: once more", 0, x::collect);
        Branchwork y = Stores.line("0[1]", "0[] 1[5] 2[5] 3[1]");
        y.reset(0);
        CHECK.due("13: a commit, a tree, two contents, one of them without lines", 4, y::collect);
        Branchwork z = Stores.full();
        for (int branch = 1; branch < 5; branch++) {
            z.change(branch);
            z.reset(10);
        }
        CHECK.due("13: one branch still reaches all", 0, z::collect);
        z.change(0);
        z.reset(0);
        CHECK.due("13: behind the farthest branch, three each", 3 * 19, z::collect);
    }

    /** "REACHED, if it is an ANCESTOR of one at which a BRANCH is, or of that which is being MERGED" */
    private static void collectMerging() {
        Branchwork x = Stores.merging();
        Stores.become(x, Files.tree("9[9]"));
        CHECK.due("13: while being merged", 0, x::collect);
        CHECK.due("13: it is still being merged", 2, () -> x.now(2));
        CHECK.due("13: with its conflicts", 3, () -> x.many(3));
        CHECK.compare("13: and its working tree", "9[9]", Files.showAll(x, -1));
    }

    /** "A COMMIT that is GONE is no such COMMIT." Those that are left keep their numbers. */
    private static void collectGone() {
        Branchwork x = Stores.collected();
        CHECK.refused("13: gone", INDEX, x, () -> x.ofCommit(1, 0));
        CHECK.due("13: commits", 3, () -> x.many(0));
        CHECK.due("13: parent", 2, () -> x.ofCommit(3, 0));
        CHECK.due("13: parent", 0, () -> x.ofCommit(2, 0));
        x.put(0, 0, 5);
        CHECK.due("13: the number of one that is gone is not given again", 4, () -> x.commit(0));
        CHECK.refused("13: still gone", INDEX, x, () -> x.ofCommit(1, 0));
    }
}
