import java.math.BigInteger;
import java.util.ArrayList;
import java.util.List;

/** The bounds that promises 26 to 29 name. */
public final class WouldBeBoundsTest {
    private static final Class<IndexOutOfBoundsException> INDEX = IndexOutOfBoundsException.class;

    private static final Check CHECK = new Check("WouldBeBoundsTest");

    public static void main(String[] args) {
        conflictsOfCommits();
        conflictsOfAncestors();
        conflictsOfMost();
        conflictsOfWhileMerging();
        garbageNone();
        garbageAsCollect();
        meanWithout();
        meanEdges();
        meanOfGone();
        digestOfNewObject();
        digestWraps();
        digestTellsOfEach();
        lastCall();
        CHECK.end();
    }

    /** "IndexOutOfBoundsException if there is no such COMMIT" */
    private static void conflictsOfCommits() {
        Branchwork x = new Branchwork();
        CHECK.refused("26: none in a new object", INDEX, x, () -> x.conflictsOf(0, 0));
        CHECK.refused("26: none in a new object", INDEX, x, () -> x.conflictsOf(-1, -1));
        Branchwork y = Stores.full();
        CHECK.refusedEach("26: a", INDEX, y, Edges.NEVER_A_COMMIT, commit -> y.conflictsOf(commit, 0));
        CHECK.refusedEach("26: b", INDEX, y, Edges.NEVER_A_COMMIT, commit -> y.conflictsOf(0, commit));
        CHECK.refused("26: a is -1", INDEX, y, () -> y.conflictsOf(-1, 0));
        CHECK.refused("26: b is -1", INDEX, y, () -> y.conflictsOf(0, -1));
        CHECK.due("26: the first and the last", 0, () -> y.conflictsOf(0, 29));
        Branchwork z = Stores.collected();
        CHECK.refused("26: a is gone", INDEX, z, () -> z.conflictsOf(1, 0));
        CHECK.refused("26: b is gone", INDEX, z, () -> z.conflictsOf(0, 1));
        CHECK.due("26: not gone", 0, () -> z.conflictsOf(0, 3));
    }

    /** "(also if one is an ANCESTOR of the other one)" */
    private static void conflictsOfAncestors() {
        Branchwork x = Stores.line("0[1] 1[1] 2[1]", "0[2] 5[1]", "0[3]");
        for (int a = 0; a < 3; a++) {
            for (int b = 0; b < 3; b++) {
                int ours = a;
                int theirs = b;
                // One side is the base itself, so the other one is what it becomes.
                CHECK.due("26: of " + a + " and " + b, 0, () -> x.conflictsOf(ours, theirs));
            }
        }
    }

    private static void conflictsOfMost() {
        Branchwork x = Stores.mostConflicts();
        CHECK.due("26: two for each of six files", 12, () -> x.conflictsOf(1, 2));
        CHECK.due("26: the other way", 12, () -> x.conflictsOf(2, 1));
        CHECK.due("26: nothing is being merged", -1, () -> x.now(2));
        CHECK.due("26: none stays", 0, () -> x.many(3));
    }

    /** "(nothing is changed)" */
    private static void conflictsOfWhileMerging() {
        Branchwork x = Stores.merging();
        long before = x.digest();
        CHECK.due("26: as many as the merge had", 3, () -> x.conflictsOf(1, 2));
        CHECK.due("26: none with itself", 0, () -> x.conflictsOf(1, 1));
        CHECK.due("26: nothing is changed", before, x::digest);
        CHECK.compare("26: the conflicts of the merge", "3@0 1@1 4@2", Files.showConflicts(x));
        x.settle(0);
        CHECK.due("26: a settled one would be again", 3, () -> x.conflictsOf(1, 2));
        CHECK.due("26: two are left", 2, () -> x.many(3));
    }

    /** "how many OBJECTS collect() would take away" */
    private static void garbageNone() {
        Branchwork x = new Branchwork();
        CHECK.due("27: a new object", 0, x::garbage);
        x.put(0, 0, 1);
        CHECK.due("27: the working tree is no object", 0, x::garbage);
        Branchwork y = Stores.full();
        CHECK.due("27: full, all are reached", 0, y::garbage);
        Branchwork z = Stores.merging();
        CHECK.due("27: being merged", 0, z::garbage);
    }

    private static void garbageAsCollect() {
        Branchwork x = Stores.full();
        for (int branch = 4; branch >= 0; branch--) {
            x.change(branch);
            x.reset(branch);
        }
        CHECK.due("27: one branch reaches five", 75, x::garbage);
        CHECK.due("27: nothing is taken away", 30, () -> x.many(0));
        CHECK.due("27: once more", 75, x::garbage);
        CHECK.due("27: as many as collect takes", 75, x::collect);
        CHECK.due("27: none left", 0, x::garbage);
        Branchwork y = Stores.line("0[1] 1[2]", "0[1] 1[3]", "0[1] 1[2]", "");
        y.reset(2);
        CHECK.due("27: a commit and a tree without files", 2, y::garbage);
        y.reset(1);
        CHECK.due("27: two commits, and that tree", 3, y::garbage);
        y.reset(0);
        CHECK.due("27: three commits, two trees, a content", 6, y::garbage);
    }

    /** "0 without any" */
    private static void meanWithout() {
        Branchwork x = new Branchwork();
        CHECK.dueDouble("28: a new object", 0.0, x::meanLines);
        Files.write(x, 0, 1, 2, 3);
        CHECK.dueDouble("28: what is not committed is no object", 0.0, x::meanLines);
        x.commit(0);
        CHECK.dueDouble("28: committed", 3.0, x::meanLines);
    }

    /** "the mean number of LINES of a CONTENT that is an OBJECT, not cut" */
    private static void meanEdges() {
        Branchwork x = Stores.line("0[]");
        CHECK.dueDouble("28: one without lines", 0.0, x::meanLines);
        Stores.commit(x, 0, Files.tree("0[] 1[1]"));
        CHECK.dueDouble("28: a half", 0.5, x::meanLines);
        Stores.commit(x, 0, Files.tree("0[] 1[1] 2[2]"));
        CHECK.dueDouble("28: two thirds", 2.0 / 3.0, x::meanLines);
        Stores.commit(x, 0, Files.tree("0[] 1[1] 2[2] 3[2] 4[]"));
        CHECK.dueDouble("28: each counted once", 2.0 / 3.0, x::meanLines);
        Branchwork y = Stores.full();
        CHECK.dueDouble("28: the greatest", 10.0, y::meanLines);
    }

    /** A CONTENT is left as long as one COMMIT that has it is not GONE, whichever had it first. */
    private static void meanOfGone() {
        Branchwork x = Stores.collected();
        CHECK.dueDouble("28: two of one line, one of three", 5.0 / 3.0, x::meanLines);
        x.reset(2);
        CHECK.dueDouble("28: not reached, but not gone", 5.0 / 3.0, x::meanLines);
        CHECK.due("28: a commit, a tree, a content", 3, x::collect);
        CHECK.dueDouble("28: two of one line", 1.0, x::meanLines);
    }

    private static void digestOfNewObject() {
        List<Integer> told = new ArrayList<>(List.of(0, 1, 0, 0, 0, 0, 0, -1, -1, -1));
        for (int path = 0; path < 12; path++) {
            told.add(0);
        }
        for (int path = 0; path < 12; path++) {
            told.add(-1);
        }
        told.add(0);
        Branchwork x = new Branchwork();
        CHECK.due("29: a new object", folded(told), x::digest);
    }

    /** "d becomes d * 31 + x, which wraps around as a 64-bit integer" */
    private static void digestWraps() {
        Branchwork x = Stores.full();
        List<Integer> told = new ArrayList<>(List.of(30, 5, 12, 0, 30, 41, 0, 29, -1, 29, 29, 29, 29, 29));
        for (int path = 0; path < 12; path++) {
            told.add(0);
        }
        addFullTree(told, 29);
        for (int commit = 0; commit < 30; commit++) {
            told.addAll(List.of(commit, commit - 1, -1, commit == 0 ? 0 : 999, 12, commit + 1, 1));
            addFullTree(told, commit);
        }
        told.add(0);
        CHECK.due("29: a full store", folded(told), x::digest);
    }

    /** The files of Stores.full() at a commit. */
    private static void addFullTree(List<Integer> told, int commit) {
        for (int path = 0; path < 12; path++) {
            told.add(10);
            for (int place = 0; place < 10; place++) {
                told.add(path == 11 && place == 9 && commit > 0 ? commit : path * 8 + place);
            }
        }
    }

    /** With whole numbers of any size, cut to 64 bits at the very end. */
    private static long folded(List<Integer> told) {
        BigInteger d = BigInteger.valueOf(58087);
        for (int x : told) {
            d = d.multiply(BigInteger.valueOf(31)).add(BigInteger.valueOf(x));
        }
        return d.longValue();
    }

    /** Each number that the digest is made of, by hand: with CONFLICTS, and with a COMMIT that is GONE. */
    private static void digestTellsOfEach() {
        Branchwork x = Stores.merging();
        List<Integer> told = new ArrayList<>(List.of(3, 2, 3, 3, 3, 3, 1, 1, 2, 2, 1));
        told.addAll(List.of(2, 1, 2, 0, 0, 0, 0, 0, 0, 0, 0, 0));
        addTree(told, new int[][] {{3, 2}, {2}, {3, 2}});
        told.addAll(List.of(0, -1, -1, 0, 2, 1, 1));
        addTree(told, new int[][] {{1}, {1}, null});
        told.addAll(List.of(1, 0, -1, 1, 2, 2, 1));
        addTree(told, new int[][] {{3}, null, {3}});
        told.addAll(List.of(2, 0, -1, 2, 3, 2, 1));
        addTree(told, new int[][] {{2}, {2}, {2}});
        told.addAll(List.of(3, 0, 1, 1, 4, 2));
        told.add(0);
        CHECK.due("29: while being merged", folded(told), x::digest);
        Branchwork y = Stores.collected();
        y.reset(0);
        List<Integer> left = new ArrayList<>(List.of(3, 1, 1, 0, 3, 3, 0, 0, -1, 0));
        left.addAll(List.of(0, 0, 0, 0, 0, 0, 0, 0, 0, 0, 0, 0));
        addTree(left, new int[][] {{1}, null, null});
        left.addAll(List.of(0, -1, -1, 0, 1, 1, 1));
        addTree(left, new int[][] {{1}, null, null});
        left.addAll(List.of(2, 0, -1, 0, 1, 2, 0));
        addTree(left, new int[][] {{2}, null, null});
        left.addAll(List.of(3, 2, -1, 0, 2, 3, 0));
        left.addAll(List.of(1, 2, -1, -1, -1, -1, -1, -1, 3, 4, 5, 6, -1, -1, -1, -1));
        left.add(6);
        CHECK.due("29: one gone, two not reached", folded(left), y::digest);
    }

    /** A tree with files at paths 0 to 2 at most. */
    private static void addTree(List<Integer> told, int[][] files) {
        for (int path = 0; path < 12; path++) {
            int[] lines = path < files.length ? files[path] : null;
            told.add(lines == null ? -1 : lines.length);
            for (int place = 0; lines != null && place < lines.length; place++) {
                told.add(lines[place]);
            }
        }
    }

    /** "An object is used for at most 512 calls": the last one answers as the others do. */
    private static void lastCall() {
        Branchwork x = new Branchwork();
        for (int i = 0; i < 255; i++) {
            x.put(0, 0, 1);
            x.cut(0, 0);
        }
        CHECK.due("1: the call before the last", 1, () -> x.put(0, 0, 7));
        CHECK.due("1: the 512th call", 7, () -> x.line(-1, 0, 0));
    }
}
