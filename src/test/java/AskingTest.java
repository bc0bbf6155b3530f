/** Promises 14 to 21: asking. */
public final class AskingTest {
    private static final Class<IndexOutOfBoundsException> INDEX = IndexOutOfBoundsException.class;
    private static final Class<IllegalArgumentException> ARGUMENT = IllegalArgumentException.class;

    private static final Check CHECK = new Check("AskingTest");

    public static void main(String[] args) {
        promise14();
        promise15();
        promise16();
        promise17();
        promise18();
        promise19();
        promise20();
        promise21();
        CHECK.end();
    }

    /** Commits 0, then 1 on branch 0 and 2 on branch 1, which is the current one. */
    private static Branchwork apart() {
        Branchwork x = Files.committed(Files.file(0, 1), Files.file(3, 1, 2), Files.file(11));
        x.branch();
        Files.write(x, 0, 2);
        x.commit(11);
        x.change(1);
        Files.write(x, 0, 3);
        x.commit(22);
        return x;
    }

    private static void promise14() {
        Branchwork x = apart();
        Files.write(x, 5, 1);
        CHECK.due("14: commits", 3, () -> x.many(0));
        CHECK.due("14: branches", 2, () -> x.many(1));
        CHECK.due("14: files in the working tree", 4, () -> x.many(2));
        CHECK.due("14: conflicts", 0, () -> x.many(3));
        CHECK.due("14: trees", 3, () -> x.many(4));
        CHECK.due("14: contents, that without lines too", 5, () -> x.many(5));
        CHECK.refused("14: 6", ARGUMENT, x, () -> x.many(6));
        CHECK.refused("14: -1", ARGUMENT, x, () -> x.many(-1));
        x.remove(5);
        x.merge(0);
        CHECK.due("14: a conflict", 1, () -> x.many(3));
        CHECK.due("14: what is not committed is no object", 5, () -> x.many(5));

        Branchwork y = Files.committed(Files.file(0, 1), Files.file(1, 1));
        CHECK.due("14: the same content twice", 1, () -> y.many(5));
        y.put(0, 0, 2);
        y.commit(0);
        y.cut(0, 0);
        y.commit(0);
        CHECK.due("14: commits", 3, () -> y.many(0));
        CHECK.due("14: the same tree twice", 2, () -> y.many(4));
        CHECK.due("14: contents", 2, () -> y.many(5));
        y.remove(0);
        y.remove(1);
        y.commit(0);
        CHECK.due("14: a tree without files", 3, () -> y.many(4));
        y.put(1, 0, 1);
        y.commit(0);
        CHECK.due("14: the same content elsewhere is another tree", 4, () -> y.many(4));
        CHECK.due("14: and the same content", 2, () -> y.many(5));
        y.reset(0);
        y.collect();
        CHECK.due("14: commits left", 1, () -> y.many(0));
        CHECK.due("14: trees left", 1, () -> y.many(4));
        CHECK.due("14: contents left", 1, () -> y.many(5));
    }

    private static void promise15() {
        Branchwork x = apart();
        CHECK.due("15: the current branch", 1, () -> x.now(0));
        CHECK.due("15: head", 2, () -> x.now(1));
        CHECK.due("15: none is being merged", -1, () -> x.now(2));
        x.merge(0);
        CHECK.due("15: being merged", 1, () -> x.now(2));
        CHECK.refused("15: 3", ARGUMENT, x, () -> x.now(3));
        CHECK.refused("15: -1", ARGUMENT, x, () -> x.now(-1));
        x.settle(0);
        CHECK.due("15: still being merged", 1, () -> x.now(2));
        x.commit(0);
        CHECK.due("15: not any more", -1, () -> x.now(2));
        CHECK.due("15: head", 3, () -> x.now(1));
    }

    private static void promise16() {
        Branchwork x = new Branchwork();
        CHECK.due("16: at none", -1, () -> x.at(0));
        CHECK.refused("16: 1", INDEX, x, () -> x.at(1));
        CHECK.refused("16: -1", INDEX, x, () -> x.at(-1));
        CHECK.refused("16: 5", INDEX, x, () -> x.at(5));
        Branchwork y = apart();
        CHECK.due("16: the first one", 1, () -> y.at(0));
        CHECK.due("16: the second one", 2, () -> y.at(1));
        CHECK.refused("16: no third one", INDEX, y, () -> y.at(2));
    }

    private static void promise17() {
        Branchwork x = apart();
        x.merge(0);
        x.settle(0);
        x.remove(3);
        x.commit(999);
        int[][] want = {{-1, -1, 0, 3, 1, 1}, {0, -1, 11, 3, 2, 1}, {0, -1, 22, 3, 2, 1}, {2, 1, 999, 2, 4, 1}};
        for (int commit = 0; commit < 4; commit++) {
            for (int what = 0; what <= 5; what++) {
                int a = commit;
                int b = what;
                CHECK.due("17: ofCommit(" + a + ", " + b + ")", want[a][b], () -> x.ofCommit(a, b));
            }
        }
        CHECK.refused("17: what 6", ARGUMENT, x, () -> x.ofCommit(0, 6));
        CHECK.refused("17: what -1", ARGUMENT, x, () -> x.ofCommit(0, -1));
        CHECK.refused("17: commit 4", INDEX, x, () -> x.ofCommit(4, 0));
        CHECK.refused("17: commit -1", INDEX, x, () -> x.ofCommit(-1, 0));
        CHECK.refused("17: commit ahead of what", INDEX, x, () -> x.ofCommit(4, 6));
        x.reset(0);
        CHECK.due("17: not reached", 0, () -> x.ofCommit(3, 5));
        CHECK.due("17: not reached", 0, () -> x.ofCommit(2, 5));
        CHECK.due("17: reached by the other branch", 1, () -> x.ofCommit(1, 5));
        CHECK.due("17: reached as a parent", 1, () -> x.ofCommit(0, 5));
        x.collect();
        CHECK.refused("17: gone", INDEX, x, () -> x.ofCommit(3, 0));
        CHECK.due("17: not gone", 11, () -> x.ofCommit(1, 2));
        CHECK.refused("17: far away", INDEX, x, () -> x.ofCommit(32, 0));
        CHECK.refused("17: farther away", INDEX, x, () -> x.ofCommit(Integer.MIN_VALUE, 0));
    }

    private static void promise18() {
        Branchwork x = apart();
        CHECK.due("18: a line", 2, () -> x.line(0, 3, 1));
        CHECK.due("18: of another commit", 3, () -> x.line(2, 0, 0));
        CHECK.due("18: of the first one", 1, () -> x.line(0, 0, 0));
        CHECK.due("18: behind the last", -1, () -> x.line(0, 3, 2));
        CHECK.due("18: far behind", -1, () -> x.line(0, 3, Integer.MAX_VALUE));
        CHECK.due("18: place -1", -1, () -> x.line(0, 3, -1));
        CHECK.due("18: without lines", -1, () -> x.line(0, 11, 0));
        CHECK.due("18: no file", -2, () -> x.line(0, 4, 0));
        CHECK.due("18: no file, place -1", -2, () -> x.line(0, 4, -1));
        x.put(4, 0, 44);
        CHECK.due("18: the working tree", 44, () -> x.line(-1, 4, 0));
        CHECK.due("18: the commit stays", -2, () -> x.line(2, 4, 0));
        x.cut(3, 0);
        x.cut(3, 0);
        CHECK.due("18: nothing is left of a line that was cut", -1, () -> x.line(-1, 3, 0));
        CHECK.refused("18: commit 3", INDEX, x, () -> x.line(3, 0, 0));
        CHECK.refused("18: commit -2", INDEX, x, () -> x.line(-2, 0, 0));
        CHECK.refused("18: path 12", INDEX, x, () -> x.line(0, 12, 0));
        CHECK.refused("18: path -1", INDEX, x, () -> x.line(0, -1, 0));
        CHECK.refused("18: path 12 of the working tree", INDEX, x, () -> x.line(-1, 12, 0));
        x.reset(0);
        x.collect();
        CHECK.refused("18: gone", INDEX, x, () -> x.line(2, 0, 0));
    }

    private static void promise19() {
        Branchwork x = apart();
        CHECK.due("19: a file", 2, () -> x.size(0, 3));
        CHECK.due("19: without lines", 0, () -> x.size(0, 11));
        CHECK.due("19: none", -1, () -> x.size(0, 4));
        x.put(3, 0, 5);
        CHECK.due("19: the working tree", 3, () -> x.size(-1, 3));
        CHECK.due("19: the commit stays", 2, () -> x.size(2, 3));
        CHECK.due("19: none in the working tree", -1, () -> x.size(-1, 4));
        CHECK.refused("19: commit 3", INDEX, x, () -> x.size(3, 0));
        CHECK.refused("19: commit -2", INDEX, x, () -> x.size(-2, 0));
        CHECK.refused("19: path 12", INDEX, x, () -> x.size(0, 12));
        CHECK.refused("19: path -1", INDEX, x, () -> x.size(-1, -1));
        x.reset(0);
        x.collect();
        CHECK.refused("19: gone", INDEX, x, () -> x.size(2, 0));
    }

    private static void promise20() {
        Branchwork x = apart();
        CHECK.refused("20: none", INDEX, x, () -> x.conflict(0, 0));
        CHECK.refused("20: none, ahead of what", INDEX, x, () -> x.conflict(0, 2));
        x.merge(0);
        CHECK.due("20: its code", 3, () -> x.conflict(0, 0));
        CHECK.due("20: its path", 0, () -> x.conflict(0, 1));
        CHECK.refused("20: what 2", ARGUMENT, x, () -> x.conflict(0, 2));
        CHECK.refused("20: what -1", ARGUMENT, x, () -> x.conflict(0, -1));
        CHECK.refused("20: conflict 1", INDEX, x, () -> x.conflict(1, 0));
        CHECK.refused("20: conflict -1", INDEX, x, () -> x.conflict(-1, 0));
        CHECK.refused("20: conflict ahead of what", INDEX, x, () -> x.conflict(1, 2));
    }

    private static void promise21() {
        Branchwork x = apart();
        CHECK.due("21: of two", 0, () -> x.base(1, 2));
        CHECK.due("21: the other way", 0, () -> x.base(2, 1));
        CHECK.due("21: of one", 2, () -> x.base(2, 2));
        CHECK.due("21: an ancestor", 0, () -> x.base(0, 2));
        x.merge(0);
        x.settle(0);
        x.commit(3);
        CHECK.due("21: over the second parent", 1, () -> x.base(3, 1));
        CHECK.due("21: over the first parent", 2, () -> x.base(3, 2));
        CHECK.refused("21: a", INDEX, x, () -> x.base(4, 0));
        CHECK.refused("21: b", INDEX, x, () -> x.base(0, 4));
        CHECK.refused("21: -1", INDEX, x, () -> x.base(-1, 0));
        CHECK.refused("21: -1", INDEX, x, () -> x.base(0, -1));
        x.reset(0);
        x.collect();
        CHECK.refused("21: gone", INDEX, x, () -> x.base(0, 2));
        CHECK.refused("21: gone", INDEX, x, () -> x.base(3, 0));
    }
}
