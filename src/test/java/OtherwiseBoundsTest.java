/** The bounds that promises 22 to 25 name. */
public final class OtherwiseBoundsTest {
    private static final Class<IndexOutOfBoundsException> INDEX = IndexOutOfBoundsException.class;
    private static final Class<IllegalArgumentException> ARGUMENT = IllegalArgumentException.class;

    private static final Check CHECK = new Check("OtherwiseBoundsTest");

    public static void main(String[] args) {
        wentCommits();
        wentPath();
        wentAnswers();
        changesCommits();
        changesWhat();
        changesNone();
        changesAll();
        changesContent();
        nearnessCommits();
        nearnessPaths();
        originCommit();
        originPath();
        originPlace();
        originWithoutParent();
        originFarthest();
        originMoved();
        originSecondParent();
        CHECK.end();
    }

    /** "IndexOutOfBoundsException if there is no such COMMIT" */
    private static void wentCommits() {
        Branchwork x = new Branchwork();
        CHECK.refused("22: none in a new object", INDEX, x, () -> x.went(0, 0, 0));
        Branchwork y = Stores.full();
        CHECK.refusedEach("22: a", INDEX, y, Edges.NEVER_A_COMMIT, commit -> y.went(commit, 0, 0));
        CHECK.refusedEach("22: b", INDEX, y, Edges.NEVER_A_COMMIT, commit -> y.went(0, commit, 0));
        CHECK.refused("22: a is -1", INDEX, y, () -> y.went(-1, 0, 0));
        CHECK.refused("22: b is -1", INDEX, y, () -> y.went(0, -1, 0));
        CHECK.due("22: the last one", 11, () -> y.went(0, 29, 11));
        Branchwork z = Stores.collected();
        CHECK.refused("22: a is gone", INDEX, z, () -> z.went(1, 0, 0));
        CHECK.refused("22: b is gone", INDEX, z, () -> z.went(0, 1, 0));
        CHECK.refused("22: b is gone, a has no file there", INDEX, z, () -> z.went(0, 1, 5));
    }

    /** "IndexOutOfBoundsException if there is no such ... PATH" */
    private static void wentPath() {
        Branchwork x = Stores.line("0[1] 11[2]");
        CHECK.due("22: path 0", 0, () -> x.went(0, 0, 0));
        CHECK.due("22: path 11", 11, () -> x.went(0, 0, 11));
        CHECK.refusedEach("22: path", INDEX, x, Edges.NO_PATH, path -> x.went(0, 0, path));
    }

    /** "-1 if it is nowhere, -2 if a has no FILE there" */
    private static void wentAnswers() {
        Branchwork x = Stores.line("0[1 2] 11[3]", "10[1 2] 1[4]", "");
        CHECK.due("22: renamed from the smallest path", 10, () -> x.went(0, 1, 0));
        CHECK.due("22: renamed to the smallest path", 0, () -> x.went(1, 0, 10));
        CHECK.due("22: nowhere", -1, () -> x.went(0, 1, 11));
        CHECK.due("22: no file in a, though in b", -2, () -> x.went(0, 1, 10));
        CHECK.due("22: no file in both", -2, () -> x.went(0, 1, 5));
        CHECK.due("22: nowhere in a tree without files", -1, () -> x.went(0, 2, 0));
        CHECK.due("22: no file in a tree without files", -2, () -> x.went(2, 0, 0));
    }

    /** "IndexOutOfBoundsException if there is no such COMMIT" */
    private static void changesCommits() {
        Branchwork x = new Branchwork();
        CHECK.refused("23: none in a new object", INDEX, x, () -> x.changes(0, 0, 0));
        CHECK.refused("23: no commit, no what", INDEX, x, () -> x.changes(0, 0, 4));
        Branchwork y = Stores.full();
        CHECK.refusedEach("23: a", INDEX, y, Edges.NEVER_A_COMMIT, commit -> y.changes(commit, 0, 0));
        CHECK.refusedEach("23: b", INDEX, y, Edges.NEVER_A_COMMIT, commit -> y.changes(0, commit, 0));
        CHECK.refused("23: a is -1, no what", INDEX, y, () -> y.changes(-1, 0, -1));
        CHECK.refused("23: b is -1, no what", INDEX, y, () -> y.changes(0, -1, 4));
        CHECK.due("23: the last one", 1, () -> y.changes(0, 29, 3));
        Branchwork z = Stores.collected();
        CHECK.refused("23: a is gone", INDEX, z, () -> z.changes(1, 0, 0));
        CHECK.refused("23: b is gone", INDEX, z, () -> z.changes(0, 1, 0));
        CHECK.refused("23: b is gone, no what", INDEX, z, () -> z.changes(0, 1, 4));
    }

    /** "IllegalArgumentException if what is not 0 to 3" */
    private static void changesWhat() {
        Branchwork x = Stores.line("0[1]", "0[2]");
        CHECK.refusedEach("23: what", ARGUMENT, x, Edges.notTo(3), what -> x.changes(0, 1, what));
        int[] want = {0, 0, 0, 1};
        for (int what = 0; what <= 3; what++) {
            int asked = what;
            CHECK.due("23: what " + what, want[what], () -> x.changes(0, 1, asked));
        }
    }

    /** Trees without FILES, and a tree beside itself. */
    private static void changesNone() {
        Branchwork x = Stores.line("0[1]", "");
        int[] toNothing = {0, 1, 0, 0};
        int[] fromNothing = {1, 0, 0, 0};
        for (int what = 0; what <= 3; what++) {
            int asked = what;
            CHECK.due("23: to a tree without files, " + what, toNothing[what], () -> x.changes(0, 1, asked));
            CHECK.due("23: from a tree without files, " + what, fromNothing[what], () -> x.changes(1, 0, asked));
            CHECK.due("23: with itself, " + what, 0, () -> x.changes(0, 0, asked));
            CHECK.due("23: both without files, " + what, 0, () -> x.changes(1, 1, asked));
        }
    }

    /** All 12 PATHS of one kind; half of them, where each takes two PATHS. */
    private static void changesAll() {
        StringBuilder ones = new StringBuilder();
        StringBuilder twos = new StringBuilder();
        StringBuilder low = new StringBuilder();
        StringBuilder high = new StringBuilder();
        for (int path = 0; path < 12; path++) {
            String space = path == 0 ? "" : " ";
            ones.append(space).append(path).append("[1]");
            twos.append(space).append(path).append("[2]");
            StringBuilder half = path < 6 ? low : high;
            half.append(path % 6 == 0 ? "" : " ").append(path).append("[").append(path % 6).append("]");
        }
        Branchwork x = Stores.line(ones.toString(), "", low.toString(), high.toString());
        CHECK.due("23: only b, 12", 12, () -> x.changes(1, 0, 0));
        CHECK.due("23: nowhere in b, 12", 12, () -> x.changes(0, 1, 1));
        CHECK.due("23: renamed, 6", 6, () -> x.changes(2, 3, 2));
        CHECK.due("23: renamed back, 6", 6, () -> x.changes(3, 2, 2));
        CHECK.due("23: none new, as all are renamed", 0, () -> x.changes(2, 3, 0));
        CHECK.due("23: none nowhere, as all are renamed", 0, () -> x.changes(2, 3, 1));
        Branchwork y = Stores.line(ones.toString(), twos.toString());
        CHECK.due("23: another content, 12", 12, () -> y.changes(0, 1, 3));
        CHECK.due("23: none renamed, as both have them", 0, () -> y.changes(0, 1, 2));
    }

    /** "(with another CONTENT or not)"; "those that both have, with another CONTENT" */
    private static void changesContent() {
        Branchwork x = Stores.line("0[1 2 3] 1[4] 2[5] 3[]", "6[1 2 3] 1[4] 2[] 3[5]", "6[1 2 3 4] 1[4 4] 2[5] 3[]");
        CHECK.due("23: renamed with the same content", 1, () -> x.changes(0, 1, 2));
        CHECK.due("23: renamed with another content", 1, () -> x.changes(0, 2, 2));
        CHECK.due("23: without lines and with one, both ways", 2, () -> x.changes(0, 1, 3));
        CHECK.due("23: one line more", 1, () -> x.changes(0, 2, 3));
    }

    /** "IndexOutOfBoundsException if there is no such COMMIT" */
    private static void nearnessCommits() {
        Branchwork x = new Branchwork();
        CHECK.refused("24: none in a new object", INDEX, x, () -> x.nearness(0, 0, 0, 0));
        x.put(0, 0, 1);
        CHECK.refused("24: the working tree is no commit", INDEX, x, () -> x.nearness(-1, 0, -1, 0));
        Branchwork y = Stores.full();
        CHECK.refusedEach("24: a", INDEX, y, Edges.NEVER_A_COMMIT, commit -> y.nearness(commit, 0, 0, 0));
        CHECK.refusedEach("24: b", INDEX, y, Edges.NEVER_A_COMMIT, commit -> y.nearness(0, 0, commit, 0));
        CHECK.refused("24: a is -1", INDEX, y, () -> y.nearness(-1, 0, 0, 0));
        CHECK.refused("24: b is -1", INDEX, y, () -> y.nearness(0, 0, -1, 0));
        CHECK.due("24: the last one", 90, () -> y.nearness(0, 11, 29, 11));
        Branchwork z = Stores.collected();
        CHECK.refused("24: a is gone", INDEX, z, () -> z.nearness(1, 0, 0, 0));
        CHECK.refused("24: b is gone", INDEX, z, () -> z.nearness(0, 0, 1, 0));
    }

    /** "IndexOutOfBoundsException if there is no such ... FILE" */
    private static void nearnessPaths() {
        Branchwork x = Stores.line("0[1] 11[1]", "0[1] 5[]");
        CHECK.due("24: path 0, other 11", 100, () -> x.nearness(0, 0, 0, 11));
        CHECK.due("24: path 11, other 0", 100, () -> x.nearness(0, 11, 0, 0));
        CHECK.refusedEach("24: path", INDEX, x, Edges.NO_PATH, path -> x.nearness(0, path, 0, 0));
        CHECK.refusedEach("24: other", INDEX, x, Edges.NO_PATH, path -> x.nearness(0, 0, 0, path));
        CHECK.refused("24: no file at path, though b has it", INDEX, x, () -> x.nearness(0, 5, 1, 5));
        CHECK.refused("24: no file at other, though a has it", INDEX, x, () -> x.nearness(0, 11, 1, 11));
        CHECK.due("24: a file without lines is one", 0, () -> x.nearness(0, 0, 1, 5));
    }

    /** "IndexOutOfBoundsException if there is no such COMMIT" */
    private static void originCommit() {
        Branchwork x = new Branchwork();
        CHECK.refused("25: none in a new object", INDEX, x, () -> x.origin(0, 0, 0));
        x.put(0, 0, 1);
        CHECK.refused("25: the working tree is no commit", INDEX, x, () -> x.origin(-1, 0, 0));
        Branchwork y = Stores.full();
        CHECK.refusedEach("25: commit", INDEX, y, Edges.NEVER_A_COMMIT, commit -> y.origin(commit, 0, 0));
        Branchwork z = Stores.collected();
        CHECK.refused("25: gone", INDEX, z, () -> z.origin(1, 0, 0));
        CHECK.due("25: what is gone had that line first", 3, () -> z.origin(3, 7, 0));
    }

    /** "IndexOutOfBoundsException if there is no such ... FILE" */
    private static void originPath() {
        Branchwork x = Stores.line("0[1] 11[2]");
        CHECK.due("25: path 0", 0, () -> x.origin(0, 0, 0));
        CHECK.due("25: path 11", 0, () -> x.origin(0, 11, 0));
        CHECK.refused("25: no file", INDEX, x, () -> x.origin(0, 1, 0));
        CHECK.refusedEach("25: path", INDEX, x, Edges.NO_PATH, path -> x.origin(0, path, 0));
    }

    /** "IndexOutOfBoundsException if there is no such ... LINE" */
    private static void originPlace() {
        Branchwork x = Stores.line("0[0 1 2 3 4 5 6 7 8 9] 1[1] 2[]");
        CHECK.due("25: place 0 of 10", 0, () -> x.origin(0, 0, 0));
        CHECK.due("25: place 9 of 10", 0, () -> x.origin(0, 0, 9));
        CHECK.refusedEach("25: place", INDEX, x, Edges.NO_PLACE, place -> x.origin(0, 0, place));
        CHECK.due("25: place 0 of 1", 0, () -> x.origin(0, 1, 0));
        CHECK.refused("25: place 1 of 1", INDEX, x, () -> x.origin(0, 1, 1));
        CHECK.refused("25: place -1 of 1", INDEX, x, () -> x.origin(0, 1, -1));
        CHECK.refused("25: place 0 of none", INDEX, x, () -> x.origin(0, 2, 0));
        CHECK.refused("25: place -1 of none", INDEX, x, () -> x.origin(0, 2, -1));
    }

    /** A COMMIT without PARENTS, or with one that has not the FILE, ends it. */
    private static void originWithoutParent() {
        Branchwork x = Stores.line("0[1]", "0[1] 1[1]", "", "0[1]");
        CHECK.due("25: no parent", 0, () -> x.origin(0, 0, 0));
        CHECK.due("25: the parent has the file", 0, () -> x.origin(1, 0, 0));
        CHECK.due("25: the parent has it nowhere, and none is renamed to it", 1, () -> x.origin(1, 1, 0));
        CHECK.due("25: the parent has no files", 3, () -> x.origin(3, 0, 0));
    }

    /** From the thirtieth COMMIT back to the first one. */
    private static void originFarthest() {
        Branchwork x = Stores.full();
        CHECK.due("25: the first line", 0, () -> x.origin(29, 0, 0));
        CHECK.due("25: the last line of all that stays", 0, () -> x.origin(29, 11, 8));
        CHECK.due("25: a line that is new each time", 29, () -> x.origin(29, 11, 9));
        CHECK.due("25: and before", 28, () -> x.origin(28, 11, 9));
        Branchwork y = Stores.line("0[1]");
        for (int i = 1; i < 30; i++) {
            y.rename((i - 1) % 12, i % 12);
            y.commit(0);
        }
        CHECK.due("25: over 29 renames", 0, () -> y.origin(29, 5, 0));
    }

    /** A LINE that moves from the first place to the tenth, and back. */
    private static void originMoved() {
        Branchwork x = Stores.line("0[1]", "0[2 3 4 5 6 7 8 9 10 1]", "0[1]", "0[1 1]");
        CHECK.due("25: to the tenth place", 0, () -> x.origin(1, 0, 9));
        CHECK.due("25: the place ahead of it", 1, () -> x.origin(1, 0, 8));
        CHECK.due("25: the first place, where its own is not paired", 1, () -> x.origin(1, 0, 0));
        CHECK.due("25: back to the first place", 0, () -> x.origin(2, 0, 0));
        CHECK.due("25: the first of two", 0, () -> x.origin(3, 0, 0));
        CHECK.due("25: the second of two has none left to be paired with", 3, () -> x.origin(3, 0, 1));
        Branchwork y = Stores.line("0[1 2 3 4]", "0[]", "0[1 2 3 4]");
        CHECK.due("25: the parent has no lines", 2, () -> y.origin(2, 0, 0));
    }

    /** "otherwise likewise with the second one; so at each COMMIT anew" */
    private static void originSecondParent() {
        Branchwork x = Stores.apart("0[1 2 3]", "0[1 2 3] 1[7]", "5[1 2 3 4]");
        x.merge(0);
        x.commit(0);
        CHECK.compare("25: merged", "1[7] 5[1 2 3 4]", Files.showAll(x, 3));
        CHECK.due("25: the first parent has it at a path that is renamed", 0, () -> x.origin(3, 5, 0));
        CHECK.due("25: the first parent has the file, but not the line", 2, () -> x.origin(3, 5, 3));
        CHECK.due("25: only the first parent has the file", 1, () -> x.origin(3, 1, 0));
        x.put(5, 4, 9);
        x.commit(0);
        CHECK.due("25: behind the merge, over its second parent", 2, () -> x.origin(4, 5, 3));
        CHECK.due("25: behind the merge, of itself", 4, () -> x.origin(4, 5, 4));
    }
}
