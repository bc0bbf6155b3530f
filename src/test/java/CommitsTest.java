/** Promises 7 to 10, 12 and 13: commits, branches, settling and collecting. */
public final class CommitsTest {
    private static final Class<IndexOutOfBoundsException> INDEX = IndexOutOfBoundsException.class;
    private static final Class<IllegalArgumentException> ARGUMENT = IllegalArgumentException.class;
    private static final Class<IllegalStateException> STATE = IllegalStateException.class;

    private static final Check CHECK = new Check("CommitsTest");

    public static void main(String[] args) {
        promise7();
        promise7Most();
        promise7Merging();
        promise8();
        promise9();
        promise10();
        promise12();
        promise13();
        CHECK.end();
    }

    /** Two branches with a conflict in the lines of path 0, not merged yet; 1 is the current one. */
    private static Branchwork apart() {
        Branchwork x = Files.committed(Files.file(0, 1));
        x.branch();
        Files.write(x, 0, 2);
        x.commit(1);
        x.change(1);
        Files.write(x, 0, 3);
        x.commit(2);
        return x;
    }

    private static void promise7() {
        Branchwork x = new Branchwork();
        CHECK.refused("7: clean without a head", STATE, x, () -> x.commit(0));
        CHECK.refused("7: note -1", ARGUMENT, x, () -> x.commit(-1));
        CHECK.refused("7: note 1000 ahead of clean", ARGUMENT, x, () -> x.commit(1000));
        Files.write(x, 0, 1);
        CHECK.refused("7: note 1000", ARGUMENT, x, () -> x.commit(1000));
        CHECK.due("7: no commit came to be", 0, () -> x.many(0));
        CHECK.due("7: the first one", 0, () -> x.commit(999));
        CHECK.due("7: its parent", -1, () -> x.ofCommit(0, 0));
        CHECK.due("7: its second parent", -1, () -> x.ofCommit(0, 1));
        CHECK.due("7: its note", 999, () -> x.ofCommit(0, 2));
        CHECK.due("7: the branch is at it", 0, () -> x.at(0));
        CHECK.refused("7: clean", STATE, x, () -> x.commit(0));
        x.remove(0);
        CHECK.due("7: a tree without files", 1, () -> x.commit(0));
        CHECK.due("7: its parent", 0, () -> x.ofCommit(1, 0));
        CHECK.compare("7: trees", "0[1]", Files.showAll(x, 0));
        CHECK.compare("7: trees", "", Files.showAll(x, 1));
        x.branch();
        x.change(1);
        Files.write(x, 4, 4);
        x.commit(3);
        CHECK.due("7: the current branch goes", 2, () -> x.at(1));
        CHECK.due("7: the other one stays", 1, () -> x.at(0));
    }

    private static void promise7Most() {
        Branchwork x = new Branchwork();
        for (int i = 0; i < 30; i++) {
            x.put(0, 0, i);
            int number = i;
            CHECK.due("7: commit " + i, i, () -> x.commit(number));
            x.cut(0, 0);
        }
        CHECK.refused("7: there were 30", STATE, x, () -> x.commit(0));
        CHECK.refused("7: note ahead of 30", ARGUMENT, x, () -> x.commit(-1));
        x.reset(0);
        x.collect();
        CHECK.due("7: gone", 1, () -> x.many(0));
        x.put(1, 0, 1);
        CHECK.refused("7: 30 ever, gone or not", STATE, x, () -> x.commit(0));
        CHECK.due("7: nothing changed", 0, () -> x.now(1));
    }

    private static void promise7Merging() {
        Branchwork x = apart();
        x.merge(0);
        CHECK.refused("7: conflicts are not settled", STATE, x, () -> x.commit(5));
        CHECK.refused("7: note ahead of conflicts", ARGUMENT, x, () -> x.commit(1000));
        x.settle(0);
        CHECK.due("7: a merge", 3, () -> x.commit(5));
        CHECK.due("7: its first parent", 2, () -> x.ofCommit(3, 0));
        CHECK.due("7: its second parent", 1, () -> x.ofCommit(3, 1));
        CHECK.due("7: nothing is being merged", -1, () -> x.now(2));
        CHECK.refused("7: clean after it", STATE, x, () -> x.commit(5));
        Branchwork y = apart();
        y.merge(0);
        y.settle(0);
        Files.write(y, 0, 3);
        CHECK.due("7: as the head", 0, () -> y.status(0));
        CHECK.due("7: clean, but being merged", 3, () -> y.commit(5));
        Files.write(y, 0, 8);
        y.commit(6);
        CHECK.due("7: the next one has one parent", -1, () -> y.ofCommit(4, 1));
    }

    private static void promise8() {
        Branchwork x = new Branchwork();
        CHECK.refused("8: no head", STATE, x, x::branch);
        Files.write(x, 0, 1);
        CHECK.refused("8: no head, a file", STATE, x, x::branch);
        x.commit(0);
        for (int i = 1; i < 5; i++) {
            CHECK.due("8: branch " + i, i, x::branch);
        }
        CHECK.refused("8: there are 5", STATE, x, x::branch);
        CHECK.due("8: branches", 5, () -> x.many(1));
        CHECK.due("8: at head", 0, () -> x.at(4));
        CHECK.due("8: the current one stays", 0, () -> x.now(0));
        Branchwork y = Files.committed(Files.file(0, 1));
        y.put(0, 0, 2);
        CHECK.due("8: not clean", 1, y::branch);
        CHECK.compare("8: the working tree stays", "0[2 1]", Files.showAll(y, -1));
        y.commit(1);
        CHECK.due("8: another one", 2, y::branch);
        CHECK.due("8: where head was", 0, () -> y.at(1));
        CHECK.due("8: where head is", 1, () -> y.at(2));
    }

    private static void promise9() {
        Branchwork x = new Branchwork();
        CHECK.due("9: to itself, without a head", 0, () -> x.change(0));
        CHECK.refused("9: no such branch", INDEX, x, () -> x.change(1));
        Files.write(x, 0, 1);
        CHECK.refused("9: not clean, without a head", STATE, x, () -> x.change(0));
        CHECK.refused("9: no such branch ahead of not clean", INDEX, x, () -> x.change(1));
        x.commit(0);
        x.branch();
        Files.write(x, 0, 2);
        CHECK.refused("9: not clean", STATE, x, () -> x.change(1));
        x.commit(1);
        CHECK.due("9: the one before", 0, () -> x.change(1));
        CHECK.due("9: the current one", 1, () -> x.now(0));
        CHECK.compare("9: the tree", "0[1]", Files.showAll(x, -1));
        CHECK.due("9: to itself", 1, () -> x.change(1));
        CHECK.refused("9: branch -1", INDEX, x, () -> x.change(-1));
        CHECK.due("9: back", 1, () -> x.change(0));
        CHECK.compare("9: the tree", "0[2]", Files.showAll(x, -1));
        Branchwork y = apart();
        y.merge(0);
        Files.write(y, 0, 3);
        CHECK.refused("9: clean, but being merged", STATE, y, () -> y.change(0));
        CHECK.refused("9: no such branch ahead of being merged", INDEX, y, () -> y.change(2));
        y.settle(0);
        y.commit(1);
        CHECK.due("9: not any more", 1, () -> y.change(0));
    }

    private static void promise10() {
        Branchwork x = new Branchwork();
        CHECK.refused("10: none yet", INDEX, x, () -> x.reset(0));
        CHECK.refused("10: -1", INDEX, x, () -> x.reset(-1));
        Branchwork y = apart();
        y.merge(0);
        CHECK.refused("10: commit 3", INDEX, y, () -> y.reset(3));
        CHECK.due("10: head before", 2, () -> y.reset(0));
        CHECK.due("10: the branch", 0, () -> y.at(1));
        CHECK.due("10: the other branch", 1, () -> y.at(0));
        CHECK.due("10: nothing is being merged", -1, () -> y.now(2));
        CHECK.due("10: no conflicts", 0, () -> y.many(3));
        CHECK.compare("10: the tree", "0[1]", Files.showAll(y, -1));
        y.put(5, 0, 5);
        CHECK.due("10: not clean, to itself", 0, () -> y.reset(0));
        CHECK.compare("10: the tree", "0[1]", Files.showAll(y, -1));
        CHECK.due("10: to one that nobody reaches", 0, () -> y.reset(2));
        CHECK.compare("10: the tree", "0[3]", Files.showAll(y, -1));
        y.reset(0);
        y.collect();
        CHECK.refused("10: gone", INDEX, y, () -> y.reset(2));
    }

    private static void promise12() {
        Branchwork x = Files.committed(Files.file(0, 1), Files.file(1, 1), Files.file(2, 1));
        x.branch();
        for (int path = 0; path < 3; path++) {
            Files.write(x, path, 10 + path);
        }
        x.commit(1);
        x.change(1);
        for (int path = 0; path < 3; path++) {
            Files.write(x, path, 20 + path);
        }
        x.commit(2);
        CHECK.refused("12: none", INDEX, x, () -> x.settle(0));
        x.merge(0);
        CHECK.compare("12: conflicts", "3@0 3@1 3@2", Files.showConflicts(x));
        CHECK.refused("12: number 3", INDEX, x, () -> x.settle(3));
        CHECK.refused("12: number -1", INDEX, x, () -> x.settle(-1));
        CHECK.due("12: the second one", 2, () -> x.settle(1));
        CHECK.compare("12: the one behind has one less", "3@0 3@2", Files.showConflicts(x));
        CHECK.refused("12: number 2", INDEX, x, () -> x.settle(2));
        CHECK.due("12: the last one", 1, () -> x.settle(1));
        CHECK.due("12: the only one", 0, () -> x.settle(0));
        CHECK.due("12: it is still being merged", 1, () -> x.now(2));
        CHECK.compare("12: the tree stays", "0[20 10] 1[21 11] 2[22 12]", Files.showAll(x, -1));
        Branchwork y = Files.committed(Files.file(0, 1), Files.file(1, 2));
        y.branch();
        Files.write(y, 0, 5);
        Files.write(y, 1, 6);
        Files.write(y, 2, 7);
        y.commit(1);
        y.change(1);
        Files.write(y, 0, 8);
        y.remove(1);
        Files.write(y, 2, 9);
        y.commit(2);
        y.merge(0);
        CHECK.compare("12: conflicts of three codes", "3@0 1@1 4@2", Files.showConflicts(y));
        CHECK.due("12: the first one", 2, () -> y.settle(0));
        CHECK.compare("12: those behind keep code and path", "1@1 4@2", Files.showConflicts(y));
    }

    private static void promise13() {
        Branchwork x = apart();
        CHECK.due("13: all are reached", 0, x::collect);
        x.reset(0);
        CHECK.due("13: a commit, a tree, a content", 3, x::collect);
        CHECK.due("13: again", 0, x::collect);
        CHECK.due("13: commits", 2, () -> x.many(0));
        CHECK.refused("13: gone", INDEX, x, () -> x.ofCommit(2, 0));
        Files.write(x, 0, 4);
        CHECK.due("13: numbers go on", 3, () -> x.commit(0));
        x.branch();
        x.reset(0);
        CHECK.due("13: another branch reaches it", 0, x::collect);

        Branchwork y = apart();
        y.merge(0);
        CHECK.due("13: what is being merged is reached", 0, y::collect);
        CHECK.due("13: and it is still being merged", 1, () -> y.now(2));
        CHECK.due("13: with its conflict", 1, () -> y.many(3));

        Branchwork z = Files.committed(Files.file(0, 1), Files.file(1, 2));
        Files.write(z, 0, 3);
        z.commit(0);
        Files.write(z, 0, 1);
        z.commit(0);
        z.reset(0);
        CHECK.due("13: two commits, one tree, one content", 4, z::collect);
    }
}
