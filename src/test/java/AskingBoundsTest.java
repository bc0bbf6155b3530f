/** The bounds that promises 14 to 21 name. */
public final class AskingBoundsTest {
    private static final Class<IndexOutOfBoundsException> INDEX = IndexOutOfBoundsException.class;
    private static final Class<IllegalArgumentException> ARGUMENT = IllegalArgumentException.class;
    private static final int[] FAR_PLACES = {-1, 10, 11, -10, 32, 1 << 30, Integer.MIN_VALUE, Integer.MAX_VALUE};

    private static final Check CHECK = new Check("AskingBoundsTest");

    public static void main(String[] args) {
        manyWhat();
        manyEmpty();
        manyFull();
        nowWhat();
        nowAnswers();
        atBranch();
        ofCommitCommit();
        ofCommitWhat();
        ofCommitAnswers();
        ofCommitReached();
        lineCommit();
        linePath();
        linePlace();
        lineWithoutFile();
        sizeCommit();
        sizePath();
        sizeAnswers();
        conflictNumber();
        conflictWhat();
        baseCommits();
        baseAnswers();
        CHECK.end();
    }

    /** "IllegalArgumentException if what is not 0 to 5" */
    private static void manyWhat() {
        Branchwork x = new Branchwork();
        CHECK.refusedEach("14: what", ARGUMENT, x, Edges.notTo(5), x::many);
        CHECK.due("14: what 0", 0, () -> x.many(0));
        CHECK.due("14: what 5", 0, () -> x.many(5));
        Branchwork y = Stores.full();
        CHECK.refusedEach("14: what", ARGUMENT, y, Edges.notTo(5), y::many);
    }

    /** A TREE without FILES is one, and so is a CONTENT without LINES. */
    private static void manyEmpty() {
        Branchwork x = Stores.line("0[]");
        CHECK.due("14: a content without lines", 1, () -> x.many(5));
        CHECK.due("14: a file without lines", 1, () -> x.many(2));
        Stores.commit(x, 0);
        CHECK.due("14: a tree without files", 2, () -> x.many(4));
        CHECK.due("14: no file", 0, () -> x.many(2));
        CHECK.due("14: no content more", 1, () -> x.many(5));
        Stores.commit(x, 0, Files.tree("0[] 11[]"));
        CHECK.due("14: another tree of the same content", 3, () -> x.many(4));
        CHECK.due("14: each counted once", 1, () -> x.many(5));
        Stores.commit(x, 0);
        CHECK.due("14: each tree counted once", 3, () -> x.many(4));
        CHECK.due("14: commits", 4, () -> x.many(0));
    }

    private static void manyFull() {
        Branchwork x = Stores.full();
        int[] want = {30, 5, 12, 0, 30, 41};
        for (int what = 0; what <= 5; what++) {
            int asked = what;
            CHECK.due("14: full, many(" + what + ")", want[what], () -> x.many(asked));
        }
        Branchwork y = Stores.merging();
        CHECK.due("14: conflicts", 3, () -> y.many(3));
        y.settle(0);
        CHECK.due("14: one less", 2, () -> y.many(3));
        Branchwork z = Stores.collected();
        CHECK.due("14: commits that are not gone", 3, () -> z.many(0));
        CHECK.due("14: trees of commits that are not gone", 3, () -> z.many(4));
        CHECK.due("14: a content that one that is gone had first", 3, () -> z.many(5));
    }

    /** "IllegalArgumentException if what is not 0 to 2" */
    private static void nowWhat() {
        Branchwork x = new Branchwork();
        CHECK.refusedEach("15: what", ARGUMENT, x, Edges.notTo(2), x::now);
        CHECK.due("15: what 0", 0, () -> x.now(0));
        CHECK.due("15: what 2", -1, () -> x.now(2));
    }

    /** "HEAD (-1 without one)"; "the COMMIT that is being MERGED (-1 if none is)" */
    private static void nowAnswers() {
        Branchwork x = new Branchwork();
        CHECK.due("15: no head", -1, () -> x.now(1));
        x.put(0, 0, 1);
        CHECK.due("15: no head, a file", -1, () -> x.now(1));
        x.commit(0);
        CHECK.due("15: head 0", 0, () -> x.now(1));
        CHECK.due("15: none is being merged", -1, () -> x.now(2));
        Branchwork y = Stores.full();
        y.change(4);
        CHECK.due("15: the last branch", 4, () -> y.now(0));
        CHECK.due("15: head 29", 29, () -> y.now(1));
        Branchwork z = Stores.apart("0[1]", "0[1] 1[1]", "0[1] 2[2]");
        z.merge(0);
        CHECK.due("15: being merged, without conflicts", 2, () -> z.now(2));
        z.reset(1);
        CHECK.due("15: none any more", -1, () -> z.now(2));
    }

    /** "-1 if at none"; "IndexOutOfBoundsException if there is no such BRANCH" */
    private static void atBranch() {
        Branchwork x = new Branchwork();
        CHECK.due("16: at none", -1, () -> x.at(0));
        CHECK.refused("16: no branch 1", INDEX, x, () -> x.at(1));
        CHECK.refusedEach("16: branch", INDEX, x, Edges.NEVER_A_BRANCH, x::at);
        x.put(0, 0, 1);
        x.commit(0);
        for (int branches = 1; branches < 5; branches++) {
            int count = branches;
            CHECK.refused("16: branch " + count + " of " + count, INDEX, x, () -> x.at(count));
            x.branch();
            CHECK.due("16: branch " + count + " of " + (count + 1), 0, () -> x.at(count));
        }
        CHECK.refusedEach("16: branch", INDEX, x, Edges.NEVER_A_BRANCH, x::at);
    }

    /** "IndexOutOfBoundsException if there is no such COMMIT" */
    private static void ofCommitCommit() {
        Branchwork x = new Branchwork();
        CHECK.refused("17: none in a new object", INDEX, x, () -> x.ofCommit(0, 0));
        x.put(0, 0, 1);
        CHECK.refused("17: the working tree is no commit", INDEX, x, () -> x.ofCommit(-1, 0));
        x.commit(0);
        CHECK.due("17: commit 0 of 1", 0, () -> x.ofCommit(0, 2));
        CHECK.refused("17: commit 1 of 1", INDEX, x, () -> x.ofCommit(1, 0));
        CHECK.refused("17: no commit, no what", INDEX, x, () -> x.ofCommit(1, 6));
        CHECK.refused("17: commit -1, what -1", INDEX, x, () -> x.ofCommit(-1, -1));
        Branchwork y = Stores.full();
        CHECK.due("17: commit 29 of 30", 999, () -> y.ofCommit(29, 2));
        CHECK.refusedEach("17: commit", INDEX, y, Edges.NEVER_A_COMMIT, commit -> y.ofCommit(commit, 2));
        CHECK.refused("17: commit -1 of 30", INDEX, y, () -> y.ofCommit(-1, 2));
        Branchwork z = Stores.collected();
        for (int what = -1; what <= 6; what++) {
            int asked = what;
            CHECK.refused("17: gone, what " + what, INDEX, z, () -> z.ofCommit(1, asked));
        }
        CHECK.due("17: not gone", 0, () -> z.ofCommit(2, 0));
    }

    /** "IllegalArgumentException if what is not 0 to 5" */
    private static void ofCommitWhat() {
        Branchwork x = Stores.line("0[1]");
        CHECK.refusedEach("17: what", ARGUMENT, x, Edges.notTo(5), what -> x.ofCommit(0, what));
        CHECK.due("17: what 0", -1, () -> x.ofCommit(0, 0));
        CHECK.due("17: what 5", 1, () -> x.ofCommit(0, 5));
    }

    /** "the first PARENT (-1 without one), the second one (-1), ... how many FILES it has, how many ANCESTORS" */
    private static void ofCommitAnswers() {
        Branchwork x = Stores.line("0[1]", "");
        int[][] want = {{-1, -1, 0, 1, 1, 1}, {0, -1, 0, 0, 2, 1}};
        for (int commit = 0; commit < 2; commit++) {
            for (int what = 0; what <= 5; what++) {
                int a = commit;
                int b = what;
                CHECK.due("17: ofCommit(" + a + ", " + b + ")", want[a][b], () -> x.ofCommit(a, b));
            }
        }
        Branchwork y = Stores.full();
        CHECK.due("17: 12 files", 12, () -> y.ofCommit(29, 3));
        CHECK.due("17: itself alone", 1, () -> y.ofCommit(0, 4));
        CHECK.due("17: 30 ancestors", 30, () -> y.ofCommit(29, 4));
        Branchwork z = Stores.apart("0[1]", "0[1] 1[1]", "0[1] 2[2]");
        z.merge(0);
        z.commit(0);
        CHECK.due("17: each ancestor counted once", 4, () -> z.ofCommit(3, 4));
    }

    private static void ofCommitReached() {
        Branchwork x = Stores.full();
        x.change(4);
        x.reset(0);
        CHECK.due("17: reached by another branch", 1, () -> x.ofCommit(29, 5));
        for (int branch = 0; branch < 4; branch++) {
            x.change(branch);
            x.reset(28);
        }
        CHECK.due("17: not reached", 0, () -> x.ofCommit(29, 5));
        CHECK.due("17: reached", 1, () -> x.ofCommit(28, 5));
        CHECK.due("17: the first one", 1, () -> x.ofCommit(0, 5));
        x.reset(29);
        CHECK.due("17: reached again", 1, () -> x.ofCommit(29, 5));
    }

    /** "IndexOutOfBoundsException if there is no such COMMIT (but -1), or PATH" */
    private static void lineCommit() {
        Branchwork x = new Branchwork();
        CHECK.due("18: the working tree of a new object", -2, () -> x.line(-1, 0, 0));
        CHECK.refused("18: no commit in a new object", INDEX, x, () -> x.line(0, 0, 0));
        x.put(0, 0, 5);
        CHECK.due("18: the working tree", 5, () -> x.line(-1, 0, 0));
        x.commit(0);
        CHECK.due("18: commit 0 of 1", 5, () -> x.line(0, 0, 0));
        CHECK.refused("18: commit 1 of 1", INDEX, x, () -> x.line(1, 0, 0));
        Branchwork y = Stores.full();
        CHECK.due("18: commit 29 of 30", 29, () -> y.line(29, 11, 9));
        CHECK.due("18: commit 0 of 30", 97, () -> y.line(0, 11, 9));
        CHECK.refusedEach("18: commit", INDEX, y, Edges.NEVER_A_COMMIT, commit -> y.line(commit, 0, 0));
        Branchwork z = Stores.collected();
        CHECK.refused("18: gone", INDEX, z, () -> z.line(1, 0, 0));
        CHECK.refused("18: gone, no file", INDEX, z, () -> z.line(1, 5, 0));
    }

    private static void linePath() {
        Branchwork x = Stores.line("0[1] 11[2]");
        CHECK.due("18: path 0", 1, () -> x.line(0, 0, 0));
        CHECK.due("18: path 11", 2, () -> x.line(0, 11, 0));
        CHECK.refusedEach("18: path", INDEX, x, Edges.NO_PATH, path -> x.line(0, path, 0));
        CHECK.refusedEach("18: path of the working tree", INDEX, x, Edges.NO_PATH, path -> x.line(-1, path, 0));
        CHECK.refused("18: no commit, no path", INDEX, x, () -> x.line(1, 12, 0));
    }

    /** "-1 if it has none": no place is refused. */
    private static void linePlace() {
        Branchwork x = Stores.line("0[] 1[0] 2[10 11 12 13 14 15 16 17 18 19]");
        CHECK.due("18: place 0 of 1, line 0", 0, () -> x.line(0, 1, 0));
        CHECK.due("18: place 1 of 1", -1, () -> x.line(0, 1, 1));
        CHECK.due("18: place 0 of none", -1, () -> x.line(0, 0, 0));
        CHECK.due("18: place 0 of 10", 10, () -> x.line(0, 2, 0));
        CHECK.due("18: place 9 of 10", 19, () -> x.line(0, 2, 9));
        for (int place : FAR_PLACES) {
            CHECK.due("18: place " + place + " of 10", -1, () -> x.line(0, 2, place));
            CHECK.due("18: place " + place + " of none", -1, () -> x.line(-1, 0, place));
        }
    }

    /** "-2 if there is no FILE" */
    private static void lineWithoutFile() {
        Branchwork x = Stores.line("0[1]");
        CHECK.due("18: no file, place 0", -2, () -> x.line(0, 1, 0));
        for (int place : FAR_PLACES) {
            CHECK.due("18: no file, place " + place, -2, () -> x.line(0, 11, place));
            CHECK.due("18: no file in the working tree, place " + place, -2, () -> x.line(-1, 11, place));
        }
        x.remove(0);
        CHECK.due("18: taken out", -2, () -> x.line(-1, 0, 0));
        CHECK.due("18: not in the commit", 1, () -> x.line(0, 0, 0));
    }

    /** "IndexOutOfBoundsException if there is no such COMMIT (but -1)" */
    private static void sizeCommit() {
        Branchwork x = new Branchwork();
        CHECK.due("19: the working tree of a new object", -1, () -> x.size(-1, 0));
        CHECK.refused("19: no commit in a new object", INDEX, x, () -> x.size(0, 0));
        Branchwork y = Stores.line("0[1]");
        CHECK.due("19: commit 0 of 1", 1, () -> y.size(0, 0));
        CHECK.refused("19: commit 1 of 1", INDEX, y, () -> y.size(1, 0));
        Branchwork z = Stores.full();
        CHECK.due("19: commit 29 of 30", 10, () -> z.size(29, 0));
        CHECK.refusedEach("19: commit", INDEX, z, Edges.NEVER_A_COMMIT, commit -> z.size(commit, 0));
        Branchwork w = Stores.collected();
        CHECK.refused("19: gone", INDEX, w, () -> w.size(1, 0));
        CHECK.refused("19: gone, no file", INDEX, w, () -> w.size(1, 5));
    }

    /** "IndexOutOfBoundsException if there is no such ... PATH" */
    private static void sizePath() {
        Branchwork x = Stores.line("0[1] 11[2]");
        CHECK.due("19: path 0", 1, () -> x.size(0, 0));
        CHECK.due("19: path 11", 1, () -> x.size(0, 11));
        CHECK.refusedEach("19: path", INDEX, x, Edges.NO_PATH, path -> x.size(0, path));
        CHECK.refusedEach("19: path of the working tree", INDEX, x, Edges.NO_PATH, path -> x.size(-1, path));
        CHECK.refused("19: no commit, no path", INDEX, x, () -> x.size(1, 12));
    }

    /** "-1 if there is none" */
    private static void sizeAnswers() {
        Branchwork x = Stores.line("0[] 1[7] 2[0 1 2 3 4 5 6 7 8 9]");
        int[] want = {0, 1, 10, -1};
        for (int path = 0; path < 4; path++) {
            int asked = path;
            CHECK.due("19: of path " + path, want[path], () -> x.size(0, asked));
            CHECK.due("19: in the working tree, of path " + path, want[path], () -> x.size(-1, asked));
        }
    }

    /** "IndexOutOfBoundsException if there is no such CONFLICT" */
    private static void conflictNumber() {
        Branchwork x = new Branchwork();
        CHECK.refused("20: none in a new object", INDEX, x, () -> x.conflict(0, 0));
        Branchwork y = Stores.merging();
        CHECK.due("20: conflict 0 of 3", 3, () -> y.conflict(0, 0));
        CHECK.due("20: conflict 2 of 3", 4, () -> y.conflict(2, 0));
        CHECK.refused("20: conflict 3 of 3", INDEX, y, () -> y.conflict(3, 0));
        CHECK.refusedEach("20: conflict", INDEX, y, Edges.NEVER_A_CONFLICT, conflict -> y.conflict(conflict, 1));
        CHECK.refused("20: no conflict, no what", INDEX, y, () -> y.conflict(3, 2));
        CHECK.refused("20: conflict -1, what -1", INDEX, y, () -> y.conflict(-1, -1));
        y.settle(2);
        CHECK.refused("20: settled", INDEX, y, () -> y.conflict(2, 0));
        y.reset(1);
        CHECK.refused("20: none after a reset", INDEX, y, () -> y.conflict(0, 0));
        Branchwork z = Stores.merging();
        for (int i = 0; i < 3; i++) {
            z.settle(0);
        }
        z.commit(0);
        CHECK.refused("20: none after a commit", INDEX, z, () -> z.conflict(0, 0));
    }

    /** "0 its code, 1 its PATH"; "IllegalArgumentException if what is neither" */
    private static void conflictWhat() {
        Branchwork x = Stores.merging();
        CHECK.refusedEach("20: what", ARGUMENT, x, Edges.notTo(1), what -> x.conflict(0, what));
        int[][] want = {{3, 0}, {1, 1}, {4, 2}};
        for (int conflict = 0; conflict < 3; conflict++) {
            int asked = conflict;
            CHECK.due("20: its code", want[conflict][0], () -> x.conflict(asked, 0));
            CHECK.due("20: its path", want[conflict][1], () -> x.conflict(asked, 1));
        }
    }

    /** "IndexOutOfBoundsException if there is no such COMMIT" */
    private static void baseCommits() {
        Branchwork x = new Branchwork();
        CHECK.refused("21: none in a new object", INDEX, x, () -> x.base(0, 0));
        CHECK.refused("21: none in a new object", INDEX, x, () -> x.base(-1, -1));
        Branchwork y = Stores.full();
        CHECK.refusedEach("21: a", INDEX, y, Edges.NEVER_A_COMMIT, commit -> y.base(commit, 0));
        CHECK.refusedEach("21: b", INDEX, y, Edges.NEVER_A_COMMIT, commit -> y.base(0, commit));
        CHECK.refused("21: a is -1", INDEX, y, () -> y.base(-1, 0));
        CHECK.refused("21: b is -1", INDEX, y, () -> y.base(0, -1));
        Branchwork z = Stores.collected();
        CHECK.refused("21: a is gone", INDEX, z, () -> z.base(1, 0));
        CHECK.refused("21: b is gone", INDEX, z, () -> z.base(0, 1));
        CHECK.due("21: not gone", 2, () -> z.base(3, 2));
    }

    /** "the common ANCESTOR with the greatest number" */
    private static void baseAnswers() {
        Branchwork x = Stores.full();
        CHECK.due("21: the first one with itself", 0, () -> x.base(0, 0));
        CHECK.due("21: the last one with itself", 29, () -> x.base(29, 29));
        CHECK.due("21: the first and the last", 0, () -> x.base(0, 29));
        CHECK.due("21: the last and the first", 0, () -> x.base(29, 0));
        CHECK.due("21: beside each other", 28, () -> x.base(29, 28));
        Branchwork y = Stores.apart("0[1]", "0[1] 1[1]", "0[1] 2[2]");
        CHECK.due("21: neither of both", 0, () -> y.base(1, 2));
        y.merge(0);
        y.commit(0);
        CHECK.due("21: over the second parent", 2, () -> y.base(2, 3));
        CHECK.due("21: over the first parent", 1, () -> y.base(3, 1));
    }
}
