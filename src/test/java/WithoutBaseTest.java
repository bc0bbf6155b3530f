import java.lang.reflect.Field;

/**
 * What the document says of a store with COMMITS but no HEAD, and of two COMMITS that have no BASE. Through the face
 * neither comes to be: only the first BRANCH is ever at none, and only till COMMIT 0, which all others come from.
 * So this test sets a branch to none by hand, inside the object.
 */
public final class WithoutBaseTest {
    private static final Class<IndexOutOfBoundsException> INDEX = IndexOutOfBoundsException.class;
    private static final Class<IllegalStateException> STATE = IllegalStateException.class;

    private static final Check CHECK = new Check("WithoutBaseTest");

    public static void main(String[] args) throws ReflectiveOperationException {
        neverThroughTheFace();
        withoutHead();
        base();
        conflictsOf();
        merge();
        firstIsGone();
        CHECK.end();
    }

    private static void setToNone(Branchwork x, int branch) throws ReflectiveOperationException {
        Field tips = Branchwork.class.getDeclaredField("tips");
        tips.setAccessible(true);
        ((int[]) tips.get(x))[branch] = -1;
    }

    /** Commits 0 and 1 on branch 0, commits 2 and 3 on branch 1, and neither from the other; 1 is the current one. */
    private static Branchwork strangers() throws ReflectiveOperationException {
        Branchwork x = Stores.line("0[1] 1[2] 2[3]");
        x.branch();
        x.put(5, 0, 5);
        x.commit(0);
        x.change(1);
        setToNone(x, 1);
        Stores.commit(x, 0, Files.tree("0[1] 1[4] 3[3]"));
        x.put(6, 0, 6);
        x.commit(0);
        return x;
    }

    /** As far as the face goes, COMMIT 0 is an ANCESTOR of all, and is never GONE. */
    private static void neverThroughTheFace() {
        Branchwork x = Stores.apart("0[1]", "", "2[2]");
        x.merge(0);
        for (int i = 0; i < 2 && x.many(3) > 0; i++) {
            x.settle(0);
        }
        x.commit(0);
        for (int commit = 0; commit < 4; commit++) {
            int asked = commit;
            CHECK.due("21: a base of 0 and " + commit, 0, () -> x.base(0, asked));
        }
        for (int branch = 0; branch < 2; branch++) {
            x.change(branch);
            x.reset(3);
        }
        x.collect();
        CHECK.due("13: commit 0 is not gone", -1, () -> x.ofCommit(0, 0));
    }

    /** "-1 if there was none"; "if there is no HEAD" */
    private static void withoutHead() throws ReflectiveOperationException {
        Branchwork x = Stores.line("0[1]");
        setToNone(x, 0);
        CHECK.due("15: no head", -1, () -> x.now(1));
        CHECK.due("16: at none", -1, () -> x.at(0));
        CHECK.due("17: not reached", 0, () -> x.ofCommit(0, 5));
        CHECK.due("6: beside no head", 1, () -> x.status(0));
        CHECK.refused("8: no head", STATE, x, x::branch);
        CHECK.refused("9: not clean beside no head", STATE, x, () -> x.change(0));
        CHECK.refused("11: no head", STATE, x, () -> x.merge(0));
        x.remove(0);
        CHECK.refused("11: no head, clean", STATE, x, () -> x.merge(0));
        CHECK.refused("7: clean without files", STATE, x, () -> x.commit(0));
        CHECK.due("10: there was no head", -1, () -> x.reset(0));
        CHECK.due("10: now there is", 0, () -> x.reset(0));
        CHECK.compare("10: its tree", "0[1]", Files.showAll(x, -1));
    }

    /** "-1 if they have none" */
    private static void base() throws ReflectiveOperationException {
        Branchwork x = strangers();
        CHECK.due("17: another commit without parents", -1, () -> x.ofCommit(2, 0));
        for (int one = 0; one < 2; one++) {
            for (int other = 2; other < 4; other++) {
                int a = one;
                int b = other;
                CHECK.due("21: none of " + a + " and " + b, -1, () -> x.base(a, b));
                CHECK.due("21: none of " + b + " and " + a, -1, () -> x.base(b, a));
            }
        }
        CHECK.due("21: of the one line", 0, () -> x.base(1, 0));
        CHECK.due("21: of the other one", 2, () -> x.base(2, 3));
    }

    /** "an empty TREE, if there is none": all that both have is new in both. */
    private static void conflictsOf() throws ReflectiveOperationException {
        Branchwork x = strangers();
        CHECK.due("26: path 1 is new in both, otherwise", 1, () -> x.conflictsOf(1, 3));
        CHECK.due("26: the other way", 1, () -> x.conflictsOf(3, 1));
        CHECK.due("26: beside the first ones", 1, () -> x.conflictsOf(0, 2));
    }

    private static void merge() throws ReflectiveOperationException {
        Branchwork x = strangers();
        CHECK.due("11: none is an ancestor of the other one", 1, () -> x.merge(0));
        CHECK.compare("11: files", "0[1] 1[4 2] 2[3] 3[3] 5[5] 6[6]", Files.showAll(x, -1));
        CHECK.compare("11: conflicts", "4@1", Files.showConflicts(x));
        CHECK.due("11: being merged", 1, () -> x.now(2));
        x.settle(0);
        CHECK.due("7: committed", 4, () -> x.commit(0));
        CHECK.due("17: all are its ancestors", 5, () -> x.ofCommit(4, 4));
        CHECK.due("21: now they have one", 1, () -> x.base(4, 1));
        CHECK.due("25: of the first parent's line", 2, () -> x.origin(4, 1, 0));
        CHECK.due("25: of the second parent's line", 0, () -> x.origin(4, 1, 1));
    }

    /** "A COMMIT that is GONE is no such COMMIT": number 0 too. */
    private static void firstIsGone() throws ReflectiveOperationException {
        Branchwork x = strangers();
        setToNone(x, 0);
        CHECK.due("27: two commits, two trees, two contents", 6, x::garbage);
        CHECK.due("13: two commits, two trees, two contents", 6, x::collect);
        CHECK.due("14: commits", 2, () -> x.many(0));
        CHECK.refused("10: gone", INDEX, x, () -> x.reset(0));
        CHECK.refused("17: gone", INDEX, x, () -> x.ofCommit(0, 0));
        CHECK.refused("18: gone", INDEX, x, () -> x.line(0, 0, 0));
        CHECK.refused("19: gone", INDEX, x, () -> x.size(0, 0));
        CHECK.refused("21: gone", INDEX, x, () -> x.base(0, 2));
        CHECK.refused("26: gone", INDEX, x, () -> x.conflictsOf(2, 0));
    }
}
