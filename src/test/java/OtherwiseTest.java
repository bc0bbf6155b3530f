/** Promises 22 to 25: what became otherwise. */
public final class OtherwiseTest {
    private static final Class<IndexOutOfBoundsException> INDEX = IndexOutOfBoundsException.class;
    private static final Class<IllegalArgumentException> ARGUMENT = IllegalArgumentException.class;

    private static final Check CHECK = new Check("OtherwiseTest");

    public static void main(String[] args) {
        promise22();
        promise22Order();
        promise23();
        promise24();
        promise25();
        promise25Merged();
        promise25Renamed();
        gone();
        CHECK.end();
    }

    private static Branchwork changed() {
        Branchwork x = Files.committed(Files.file(0, 1, 2, 3), Files.file(1, 4), Files.file(2, 5), Files.file(3, 6));
        Stores.commit(x, 0, Files.file(1, 4), Files.file(2, 9), Files.file(7, 1, 2, 3, 4), Files.file(8, 8));
        return x;
    }

    private static void promise22() {
        Branchwork x = changed();
        CHECK.due("22: renamed", 7, () -> x.went(0, 1, 0));
        CHECK.due("22: as it was", 1, () -> x.went(0, 1, 1));
        CHECK.due("22: another content at the same path", 2, () -> x.went(0, 1, 2));
        CHECK.due("22: nowhere", -1, () -> x.went(0, 1, 3));
        CHECK.due("22: no file", -2, () -> x.went(0, 1, 7));
        CHECK.due("22: the other way", 0, () -> x.went(1, 0, 7));
        CHECK.due("22: the other way, nowhere", -1, () -> x.went(1, 0, 8));
        CHECK.due("22: in itself", 3, () -> x.went(0, 0, 3));
        CHECK.refused("22: a", INDEX, x, () -> x.went(2, 0, 0));
        CHECK.refused("22: b", INDEX, x, () -> x.went(0, 2, 0));
        CHECK.refused("22: a is -1", INDEX, x, () -> x.went(-1, 0, 0));
        CHECK.refused("22: b is -1", INDEX, x, () -> x.went(0, -1, 0));
        CHECK.refused("22: path 12", INDEX, x, () -> x.went(0, 1, 12));
        CHECK.refused("22: path -1", INDEX, x, () -> x.went(0, 1, -1));
        x.reset(0);
        x.collect();
        CHECK.refused("22: gone", INDEX, x, () -> x.went(0, 1, 0));
    }

    private static void promise22Order() {
        Branchwork x = Files.committed(Files.file(0, 1, 2, 3), Files.file(1, 1, 2, 3, 4));
        Stores.commit(x, 0, Files.file(5, 1, 2, 3), Files.file(4, 1, 2, 3, 4));
        CHECK.due("22: the nearest one", 5, () -> x.went(0, 1, 0));
        CHECK.due("22: what is left", 4, () -> x.went(0, 1, 1));
        Stores.commit(x, 0, Files.file(8, 1, 2, 3, 4), Files.file(9, 1, 2, 3, 4));
        CHECK.due("22: of several the smallest", 8, () -> x.went(0, 2, 0));
        CHECK.due("22: taken already", 9, () -> x.went(0, 2, 1));
        Stores.commit(x, 0, Files.file(6, 1, 2, 3, 4));
        CHECK.due("22: the smaller path chooses first", 6, () -> x.went(0, 3, 0));
        CHECK.due("22: none is left", -1, () -> x.went(0, 3, 1));
        Branchwork y = Files.committed(Files.file(0, 1, 2, 3, 4, 5), Files.file(1), Files.file(2, 1, 2, 3, 4));
        Stores.commit(y, 0, Files.file(3, 1, 2, 3, 6, 7), Files.file(4), Files.file(5, 1, 2, 8, 9));
        CHECK.due("22: 60 is enough", 3, () -> y.went(0, 1, 0));
        CHECK.due("22: none have lines", 4, () -> y.went(0, 1, 1));
        CHECK.due("22: 50 is not enough", -1, () -> y.went(0, 1, 2));
        // 200 * 5 / 17 is 58; 200 * 3 / 10 is 60, 200 * 4 / 13 is 61.
        Stores.commit(y, 0, Files.file(7, 1, 2, 3, 4, 11, 12, 13, 14));
        CHECK.due("22: 61 is enough", 7, () -> y.went(0, 2, 0));
        Stores.commit(y, 0, Files.file(7, 1, 2, 3, 4, 11, 12, 13, 14, 15));
        CHECK.due("22: 57 is not enough", -1, () -> y.went(0, 3, 0));
        CHECK.due("22: but 200 * 4 / 13 is", 7, () -> y.went(0, 3, 2));
        Branchwork z = Files.committed(Files.file(0, 1, 2), Files.file(6, 1, 2));
        Stores.commit(z, 0, Files.file(6, 1, 2), Files.file(7, 9));
        CHECK.due("22: a path that both have is not renamed to", -1, () -> z.went(0, 1, 0));
    }

    private static void promise23() {
        Branchwork x = changed();
        CHECK.due("23: only b", 1, () -> x.changes(0, 1, 0));
        CHECK.due("23: nowhere in b", 1, () -> x.changes(0, 1, 1));
        CHECK.due("23: renamed", 1, () -> x.changes(0, 1, 2));
        CHECK.due("23: another content", 1, () -> x.changes(0, 1, 3));
        for (int what = 0; what <= 3; what++) {
            int asked = what;
            CHECK.due("23: with itself, " + what, 0, () -> x.changes(1, 1, asked));
        }
        Stores.commit(x, 0);
        CHECK.due("23: nothing left", 4, () -> x.changes(0, 2, 1));
        CHECK.due("23: nothing before", 4, () -> x.changes(2, 0, 0));
        CHECK.due("23: nothing renamed", 0, () -> x.changes(2, 0, 2));
        CHECK.due("23: nothing in both", 0, () -> x.changes(2, 0, 3));
        CHECK.refused("23: what 4", ARGUMENT, x, () -> x.changes(0, 1, 4));
        CHECK.refused("23: what -1", ARGUMENT, x, () -> x.changes(0, 1, -1));
        CHECK.refused("23: a", INDEX, x, () -> x.changes(3, 0, 0));
        CHECK.refused("23: b", INDEX, x, () -> x.changes(0, 3, 0));
        CHECK.refused("23: commit ahead of what", INDEX, x, () -> x.changes(0, 3, 4));
        Branchwork y = Files.committed(Files.file(0, 1, 2), Files.file(1, 3, 4));
        Stores.commit(y, 0, Files.file(5, 1, 2), Files.file(6, 3, 4, 5));
        CHECK.due("23: two renamed, one with another content", 2, () -> y.changes(0, 1, 2));
        CHECK.due("23: none with another content at its path", 0, () -> y.changes(0, 1, 3));
        CHECK.due("23: none new", 0, () -> y.changes(0, 1, 0));
        CHECK.due("23: none nowhere", 0, () -> y.changes(0, 1, 1));
    }

    private static void promise24() {
        Branchwork x = Files.committed(Files.file(0, 1, 2, 3), Files.file(1), Files.file(2, 3, 2, 1), Files.file(3));
        Stores.commit(x, 0, Files.file(0, 1, 9, 3, 4), Files.file(5, 7));
        CHECK.due("24: the same", 100, () -> x.nearness(0, 0, 0, 0));
        CHECK.due("24: both without lines", 100, () -> x.nearness(0, 1, 0, 3));
        CHECK.due("24: one without lines", 0, () -> x.nearness(0, 1, 0, 0));
        CHECK.due("24: turned round", 33, () -> x.nearness(0, 0, 0, 2));
        CHECK.due("24: 400 / 7", 57, () -> x.nearness(0, 0, 1, 0));
        CHECK.due("24: the other way", 57, () -> x.nearness(1, 0, 0, 0));
        CHECK.due("24: nothing in common", 0, () -> x.nearness(0, 0, 1, 5));
        CHECK.refused("24: a", INDEX, x, () -> x.nearness(2, 0, 0, 0));
        CHECK.refused("24: b", INDEX, x, () -> x.nearness(0, 0, 2, 0));
        CHECK.refused("24: -1", INDEX, x, () -> x.nearness(-1, 0, 0, 0));
        CHECK.refused("24: no file in a", INDEX, x, () -> x.nearness(0, 5, 1, 5));
        CHECK.refused("24: no file in b", INDEX, x, () -> x.nearness(0, 2, 1, 2));
        CHECK.refused("24: path 12", INDEX, x, () -> x.nearness(0, 12, 0, 0));
        CHECK.refused("24: other -1", INDEX, x, () -> x.nearness(0, 0, 0, -1));
    }

    private static void promise25() {
        Branchwork x = Files.committed(Files.file(0, 1, 2, 3));
        Stores.commit(x, 0, Files.file(0, 9, 1, 2, 3));
        Stores.commit(x, 0, Files.file(0, 9, 2, 3, 1));
        Stores.commit(x, 0, Files.file(0, 9, 2, 3, 1), Files.file(1, 1));
        CHECK.due("25: of the first one", 0, () -> x.origin(0, 0, 1));
        CHECK.due("25: a line that came later", 1, () -> x.origin(3, 0, 0));
        CHECK.due("25: a line from the first one, at another place", 0, () -> x.origin(3, 0, 1));
        CHECK.due("25: a line from the first one", 0, () -> x.origin(3, 0, 2));
        CHECK.due("25: a line that is not paired begins anew", 2, () -> x.origin(3, 0, 3));
        CHECK.due("25: a new file", 3, () -> x.origin(3, 1, 0));
        CHECK.due("25: from an older commit", 0, () -> x.origin(1, 0, 3));
        CHECK.refused("25: commit 4", INDEX, x, () -> x.origin(4, 0, 0));
        CHECK.refused("25: commit -1", INDEX, x, () -> x.origin(-1, 0, 0));
        CHECK.refused("25: no file", INDEX, x, () -> x.origin(3, 2, 0));
        CHECK.refused("25: path 12", INDEX, x, () -> x.origin(3, 12, 0));
        CHECK.refused("25: path -1", INDEX, x, () -> x.origin(3, -1, 0));
        CHECK.refused("25: no line", INDEX, x, () -> x.origin(3, 0, 4));
        CHECK.refused("25: place -1", INDEX, x, () -> x.origin(3, 0, -1));
        Branchwork y = Files.committed(Files.file(0, 1, 2));
        Stores.commit(y, 0, Files.file(0, 2, 1));
        // The parent is a: its 1 is left out, so that 2 is paired.
        CHECK.due("25: paired", 0, () -> y.origin(1, 0, 0));
        CHECK.due("25: not paired", 1, () -> y.origin(1, 0, 1));
        Stores.commit(y, 0, Files.file(0, 8, 9, 2, 1));
        CHECK.due("25: behind two lines that came later", 0, () -> y.origin(2, 0, 2));
        CHECK.due("25: one of these", 2, () -> y.origin(2, 0, 1));
    }

    private static void promise25Merged() {
        Branchwork x = Files.committed(Files.file(0, 1, 5));
        x.branch();
        Stores.commit(x, 0, Files.file(0, 2, 1, 5));
        x.change(1);
        Stores.commit(x, 0, Files.file(0, 1, 5, 3), Files.file(4, 4));
        x.change(0);
        x.merge(1);
        x.put(0, 0, 8);
        x.commit(0);
        CHECK.compare("25: the merge", "0[8 2 1 5 3] 4[4]", Files.showAll(x, 3));
        CHECK.due("25: of the merge itself", 3, () -> x.origin(3, 0, 0));
        CHECK.due("25: of the first parent", 1, () -> x.origin(3, 0, 1));
        CHECK.due("25: of the base", 0, () -> x.origin(3, 0, 2));
        CHECK.due("25: of the second parent", 2, () -> x.origin(3, 0, 4));
        CHECK.due("25: a file of the second parent", 2, () -> x.origin(3, 4, 0));
        Stores.commit(x, 0, Files.file(0, 3), Files.file(5, 5));
        CHECK.due("25: behind the merge", 2, () -> x.origin(4, 0, 0));

        Branchwork y = Files.committed(Files.file(0, 7));
        y.branch();
        Stores.commit(y, 0, Files.file(0, 7), Files.file(1, 6));
        y.change(1);
        Stores.commit(y, 0, Files.file(0, 7), Files.file(1, 6), Files.file(2, 2));
        y.change(0);
        CHECK.due("25: the same file in both", 0, () -> y.merge(1));
        y.commit(0);
        CHECK.due("25: the first parent goes ahead", 1, () -> y.origin(3, 1, 0));
    }

    private static void promise25Renamed() {
        Branchwork x = Files.committed(Files.file(0, 1, 2, 3));
        Stores.commit(x, 0, Files.file(6, 1, 2, 3, 4));
        Stores.commit(x, 0, Files.file(3, 2, 3, 4));
        CHECK.due("25: over two renames", 0, () -> x.origin(2, 3, 0));
        CHECK.due("25: over one rename", 1, () -> x.origin(2, 3, 2));
        Stores.commit(x, 0, Files.file(3, 8), Files.file(4, 2, 3, 4));
        CHECK.due("25: the parent has it at the path", 3, () -> x.origin(3, 3, 0));
        CHECK.due("25: not renamed, as the parent's path is still there", 3, () -> x.origin(3, 4, 0));
        Stores.commit(x, 0, Files.file(5, 8, 1, 1));
        CHECK.due("25: not near enough", 4, () -> x.origin(4, 5, 0));
    }

    /** A commit that is gone is no such commit, though its tree may still be somewhere inside. */
    private static void gone() {
        Branchwork x = changed();
        x.reset(0);
        CHECK.due("24: not gone yet", 85, () -> x.nearness(0, 0, 1, 7));
        x.collect();
        CHECK.refused("22: gone, a", INDEX, x, () -> x.went(1, 0, 7));
        CHECK.refused("22: gone, b", INDEX, x, () -> x.went(0, 1, 0));
        CHECK.refused("23: gone, a", INDEX, x, () -> x.changes(1, 0, 0));
        CHECK.refused("23: gone, b", INDEX, x, () -> x.changes(0, 1, 0));
        CHECK.refused("23: gone, ahead of what", INDEX, x, () -> x.changes(0, 1, 4));
        CHECK.refused("24: gone, a", INDEX, x, () -> x.nearness(1, 7, 0, 0));
        CHECK.refused("24: gone, b", INDEX, x, () -> x.nearness(0, 0, 1, 7));
        CHECK.refused("25: gone", INDEX, x, () -> x.origin(1, 7, 0));
        CHECK.due("25: not gone", 0, () -> x.origin(0, 0, 0));
    }
}
