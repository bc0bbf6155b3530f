/** The bounds that promises 1 to 6 name, and those that the terms set to the working tree, each sentence by itself. */
public final class TreeBoundsTest {
    private static final Class<IndexOutOfBoundsException> INDEX = IndexOutOfBoundsException.class;
    private static final Class<IllegalArgumentException> ARGUMENT = IllegalArgumentException.class;
    private static final Class<IllegalStateException> STATE = IllegalStateException.class;
    private static final String TEN = "[0 1 2 3 4 5 6 7 8 9]";

    private static final Check CHECK = new Check("TreeBoundsTest");

    public static void main(String[] args) {
        newObject();
        putPath();
        putPlace();
        putLine();
        putMost();
        putFirstNamed();
        cutPath();
        cutPlace();
        cutStays();
        renamePath();
        renameTo();
        renameToFile();
        renameReturns();
        removePath();
        removeReturns();
        statusPath();
        statusAnswers();
        statusLastLine();
        cleanWithoutHead();
        cleanWithHead();
        cleanWithoutFiles();
        CHECK.end();
    }

    /** "without COMMITS, with one BRANCH"; "at first without FILES"; "(the first one, at first) at none" */
    private static void newObject() {
        Branchwork x = new Branchwork();
        int[] many = {0, 1, 0, 0, 0, 0};
        for (int what = 0; what <= 5; what++) {
            int asked = what;
            CHECK.due("1: many(" + what + ") of a new object", many[what], () -> x.many(asked));
        }
        CHECK.due("1: the current branch, at first 0", 0, () -> x.now(0));
        CHECK.due("1: no head", -1, () -> x.now(1));
        CHECK.due("1: nothing is being merged", -1, () -> x.now(2));
        CHECK.due("1: the first branch at none", -1, () -> x.at(0));
        CHECK.refused("1: no second branch", INDEX, x, () -> x.at(1));
        CHECK.refused("1: no commit", INDEX, x, () -> x.ofCommit(0, 0));
        CHECK.refused("1: no conflict", INDEX, x, () -> x.conflict(0, 0));
        for (int path = 0; path < 12; path++) {
            int asked = path;
            CHECK.due("1: no file at " + path, -1, () -> x.size(-1, asked));
            CHECK.due("1: no file at " + path, -2, () -> x.line(-1, asked, 0));
            CHECK.due("1: as without a head at " + path, 0, () -> x.status(asked));
        }
    }

    /** "PATHS, 0 to 11"; "IndexOutOfBoundsException if there is no such PATH" */
    private static void putPath() {
        Branchwork x = new Branchwork();
        for (int path = 0; path < 12; path++) {
            int asked = path;
            CHECK.due("2: path " + path, 1, () -> x.put(asked, 0, asked));
        }
        CHECK.due("2: 12 files", 12, () -> x.many(2));
        CHECK.refusedEach("2: path", INDEX, x, Edges.NO_PATH, path -> x.put(path, 0, 0));
        CHECK.compare("2: path 0", "[0]", Files.show(x, -1, 0));
        CHECK.compare("2: path 11", "[11]", Files.show(x, -1, 11));
    }

    /** "the place, from 0, up to as many LINES as it has" */
    private static void putPlace() {
        for (int lines = 0; lines < 10; lines++) {
            int has = lines;
            Branchwork x = new Branchwork();
            for (int place = 0; place < lines; place++) {
                x.put(5, place, place);
            }
            CHECK.refused("2: place -1 of " + lines, INDEX, x, () -> x.put(5, -1, 0));
            CHECK.refused("2: place " + (lines + 1) + " of " + lines, INDEX, x, () -> x.put(5, has + 1, 0));
            CHECK.due("2: place " + lines + " of " + lines, lines + 1, () -> x.put(5, has, 50));
            CHECK.due("2: it comes behind the last", 50, () -> x.line(-1, 5, has));
            x.cut(5, lines);
            CHECK.due("2: place 0 of " + lines, lines + 1, () -> x.put(5, 0, 60));
            CHECK.due("2: it comes ahead of the first", 60, () -> x.line(-1, 5, 0));
        }
        Branchwork y = new Branchwork();
        CHECK.refusedEach("2: place", INDEX, y, new int[] {1, 10, Integer.MIN_VALUE, Integer.MAX_VALUE},
                place -> y.put(0, place, 0));
        CHECK.due("2: a refused put makes no file", -1, () -> y.size(-1, 0));
    }

    /** "LINES, each 0 to 99"; "IllegalArgumentException if line is not 0 to 99" */
    private static void putLine() {
        Branchwork x = new Branchwork();
        CHECK.refusedEach("2: line", ARGUMENT, x, Edges.NO_LINE, line -> x.put(0, 0, line));
        CHECK.due("2: a refused put makes no file", -1, () -> x.size(-1, 0));
        CHECK.due("2: line 0", 1, () -> x.put(0, 0, 0));
        CHECK.due("2: line 99", 2, () -> x.put(0, 1, 99));
        CHECK.compare("2: lines", "[0 99]", Files.show(x, -1, 0));
        CHECK.refusedEach("2: line", ARGUMENT, x, Edges.NO_LINE, line -> x.put(0, 2, line));
    }

    /** "0 to 10 LINES"; "IllegalStateException if it has 10" */
    private static void putMost() {
        Branchwork x = new Branchwork();
        for (int i = 0; i < 10; i++) {
            int place = i;
            CHECK.due("2: how many it has then", i + 1, () -> x.put(0, place, place));
        }
        CHECK.refusedEach("2: it has 10, place", STATE, x, new int[] {0, 5, 9, 10}, place -> x.put(0, place, 1));
        CHECK.compare("2: ten lines", TEN, Files.show(x, -1, 0));
        CHECK.due("2: another file has none", 1, () -> x.put(1, 0, 1));
        x.cut(0, 0);
        CHECK.due("2: it has 9 again", 10, () -> x.put(0, 9, 0));
        CHECK.refused("2: it has 10 again", STATE, x, () -> x.put(0, 10, 1));
    }

    /** "If several exceptions apply, the one that is named first is thrown." */
    private static void putFirstNamed() {
        Branchwork x = new Branchwork();
        Files.write(x, 0, 0, 1, 2, 3, 4, 5, 6, 7, 8, 9);
        CHECK.refused("2: no path, no line", INDEX, x, () -> x.put(12, 0, 100));
        CHECK.refused("2: no path, no place, no line", INDEX, x, () -> x.put(-1, -1, -1));
        CHECK.refused("2: no place, no line", INDEX, x, () -> x.put(1, 1, 100));
        CHECK.refused("2: no place, ten lines", INDEX, x, () -> x.put(0, 11, 0));
        CHECK.refused("2: place -1, ten lines", INDEX, x, () -> x.put(0, -1, 0));
        CHECK.refused("2: no place, no line, ten lines", INDEX, x, () -> x.put(0, 11, -1));
        CHECK.refused("2: no line, ten lines", ARGUMENT, x, () -> x.put(0, 10, 100));
        CHECK.refused("2: line -1, ten lines", ARGUMENT, x, () -> x.put(0, 0, -1));
    }

    /** "IndexOutOfBoundsException if there is no such FILE" */
    private static void cutPath() {
        Branchwork x = new Branchwork();
        CHECK.refused("3: no file in a new object", INDEX, x, () -> x.cut(0, 0));
        Stores.become(x, Files.tree("0[1 2] 11[3 4]"));
        CHECK.refused("3: no file", INDEX, x, () -> x.cut(1, 0));
        CHECK.refusedEach("3: path", INDEX, x, Edges.NO_PATH, path -> x.cut(path, 0));
        CHECK.due("3: path 0", 1, () -> x.cut(0, 0));
        CHECK.due("3: path 11", 1, () -> x.cut(11, 0));
        x.rename(11, 10);
        CHECK.refused("3: renamed", INDEX, x, () -> x.cut(11, 0));
        x.remove(0);
        CHECK.refused("3: taken out", INDEX, x, () -> x.cut(0, 0));
    }

    /** "IndexOutOfBoundsException if there is no such ... LINE"; "Returns how many it has then." */
    private static void cutPlace() {
        Branchwork x = new Branchwork();
        Files.write(x, 0, 0, 1, 2, 3, 4, 5, 6, 7, 8, 9);
        CHECK.refusedEach("3: place", INDEX, x, Edges.NO_PLACE, place -> x.cut(0, place));
        for (int lines = 10; lines > 0; lines--) {
            int has = lines;
            CHECK.refused("3: place -1 of " + lines, INDEX, x, () -> x.cut(0, -1));
            CHECK.refused("3: place " + lines + " of " + lines, INDEX, x, () -> x.cut(0, has));
            CHECK.due("3: the last of " + lines, lines - 1, () -> x.cut(0, has - 1));
        }
        Files.write(x, 1, 0, 1, 2, 3, 4, 5, 6, 7, 8, 9);
        for (int lines = 10; lines > 0; lines--) {
            CHECK.due("3: the first of " + lines, lines - 1, () -> x.cut(1, 0));
            CHECK.due("3: the next one is the first", lines > 1 ? 11 - lines : -1, () -> x.line(-1, 1, 0));
        }
    }

    /** "(it stays, also without LINES)" */
    private static void cutStays() {
        Branchwork x = new Branchwork();
        x.put(4, 0, 1);
        CHECK.due("3: the only line", 0, () -> x.cut(4, 0));
        CHECK.due("3: it stays", 1, () -> x.many(2));
        CHECK.due("3: without lines", 0, () -> x.size(-1, 4));
        CHECK.due("3: without lines it has no first line", -1, () -> x.line(-1, 4, 0));
        CHECK.refused("3: no line is left", INDEX, x, () -> x.cut(4, 0));
        CHECK.due("3: a line comes back", 1, () -> x.put(4, 0, 2));
    }

    /** "IndexOutOfBoundsException if there is no such FILE" */
    private static void renamePath() {
        Branchwork x = new Branchwork();
        CHECK.refused("4: no file in a new object", INDEX, x, () -> x.rename(0, 1));
        Files.write(x, 0, 1);
        CHECK.refused("4: no file", INDEX, x, () -> x.rename(1, 2));
        CHECK.refused("4: no file, to itself", INDEX, x, () -> x.rename(1, 1));
        CHECK.refusedEach("4: path", INDEX, x, Edges.NO_PATH, path -> x.rename(path, 1));
        CHECK.refusedEach("4: path, to itself", INDEX, x, Edges.NO_PATH, path -> x.rename(path, path));
        CHECK.refused("4: no file, to a file", INDEX, x, () -> x.rename(1, 0));
        CHECK.refused("4: no path, to a file", INDEX, x, () -> x.rename(12, 0));
    }

    /** "IndexOutOfBoundsException if ... to is no PATH" */
    private static void renameTo() {
        Branchwork x = new Branchwork();
        Files.write(x, 0, 1, 2);
        CHECK.refusedEach("4: to", INDEX, x, Edges.NO_PATH, to -> x.rename(0, to));
        CHECK.due("4: to 11", 2, () -> x.rename(0, 11));
        CHECK.compare("4: files", "11[1 2]", Files.showAll(x, -1));
        CHECK.due("4: to 0", 2, () -> x.rename(11, 0));
        CHECK.compare("4: files", "0[1 2]", Files.showAll(x, -1));
        CHECK.refused("4: no longer there", INDEX, x, () -> x.rename(11, 1));
    }

    /** "IllegalStateException if there is a FILE at to" */
    private static void renameToFile() {
        Branchwork x = new Branchwork();
        for (int path = 0; path < 12; path++) {
            x.put(path, 0, path);
        }
        x.cut(11, 0);
        for (int to = 0; to < 12; to++) {
            int asked = to;
            CHECK.refused("4: from 0, a file at " + to, STATE, x, () -> x.rename(0, asked));
            CHECK.refused("4: from 11, a file at " + to, STATE, x, () -> x.rename(11, asked));
        }
        x.remove(11);
        CHECK.due("4: no file any more", 1, () -> x.rename(0, 11));
    }

    /** "Returns how many LINES it has." */
    private static void renameReturns() {
        Branchwork x = new Branchwork();
        Stores.become(x, Files.tree("0[] 1[7] 2" + TEN));
        CHECK.due("4: without lines", 0, () -> x.rename(0, 3));
        CHECK.due("4: one line", 1, () -> x.rename(1, 4));
        CHECK.due("4: ten lines", 10, () -> x.rename(2, 5));
        CHECK.compare("4: files", "3[] 4[7] 5" + TEN, Files.showAll(x, -1));
    }

    /** "IndexOutOfBoundsException if there is no such FILE" */
    private static void removePath() {
        Branchwork x = new Branchwork();
        CHECK.refused("5: no file in a new object", INDEX, x, () -> x.remove(0));
        Stores.become(x, Files.tree("0[1] 11[2]"));
        CHECK.refused("5: no file", INDEX, x, () -> x.remove(1));
        CHECK.refusedEach("5: path", INDEX, x, Edges.NO_PATH, x::remove);
        CHECK.due("5: path 11", 1, () -> x.remove(11));
        CHECK.refused("5: once more", INDEX, x, () -> x.remove(11));
        CHECK.due("5: path 0", 0, () -> x.remove(0));
        CHECK.due("5: nothing of its lines is left", 1, () -> x.put(0, 0, 3));
    }

    /** "Returns how many FILES there are then." */
    private static void removeReturns() {
        Branchwork x = new Branchwork();
        for (int path = 0; path < 12; path++) {
            x.put(path, 0, 1);
        }
        x.cut(5, 0);
        for (int path = 0; path < 12; path++) {
            int asked = path;
            CHECK.due("5: files left after " + path, 11 - path, () -> x.remove(asked));
        }
    }

    /** "IndexOutOfBoundsException if there is no such PATH" */
    private static void statusPath() {
        Branchwork x = new Branchwork();
        CHECK.refusedEach("6: path, without a head", INDEX, x, Edges.NO_PATH, x::status);
        CHECK.due("6: path 0", 0, () -> x.status(0));
        CHECK.due("6: path 11", 0, () -> x.status(11));
        Stores.commit(x, 0, Files.tree("0[1] 11[2]"));
        CHECK.refusedEach("6: path", INDEX, x, Edges.NO_PATH, x::status);
    }

    /** "beside that of HEAD (one without FILES, if there is no HEAD): 0 as it, 1 ..., 2 ..., 3 ..." */
    private static void statusAnswers() {
        Branchwork x = new Branchwork();
        Stores.become(x, Files.tree("0[] 11[1]"));
        CHECK.due("6: without a head, without lines", 1, () -> x.status(0));
        CHECK.due("6: without a head, one line", 1, () -> x.status(11));
        CHECK.due("6: without a head, no file", 0, () -> x.status(5));
        x.commit(0);
        CHECK.due("6: as it, without lines", 0, () -> x.status(0));
        CHECK.due("6: as it", 0, () -> x.status(11));
        Stores.become(x, Files.tree("0[1] 11[]"));
        CHECK.due("6: a line more than none", 2, () -> x.status(0));
        CHECK.due("6: no line any more", 2, () -> x.status(11));
        Stores.become(x, Files.tree("1[] 10[1]"));
        CHECK.due("6: only in that of head, without lines", 3, () -> x.status(0));
        CHECK.due("6: only in that of head", 3, () -> x.status(11));
        CHECK.due("6: only in it, without lines", 1, () -> x.status(1));
        CHECK.due("6: only in it", 1, () -> x.status(10));
    }

    private static void statusLastLine() {
        Branchwork x = Stores.line("3" + TEN);
        x.cut(3, 9);
        CHECK.due("6: the tenth line cut", 2, () -> x.status(3));
        x.put(3, 9, 8);
        CHECK.due("6: another tenth line", 2, () -> x.status(3));
        x.cut(3, 9);
        x.put(3, 9, 9);
        CHECK.due("6: the tenth line as it was", 0, () -> x.status(3));
        x.cut(3, 0);
        x.put(3, 9, 0);
        CHECK.due("6: the same lines in another order", 2, () -> x.status(3));
    }

    /** "CLEAN, if it is as the TREE of HEAD (without FILES, if there is no HEAD)" */
    private static void cleanWithoutHead() {
        Branchwork x = new Branchwork();
        CHECK.refused("6: clean at first", STATE, x, () -> x.commit(0));
        x.put(11, 0, 1);
        x.remove(11);
        CHECK.refused("6: clean again", STATE, x, () -> x.commit(0));
        CHECK.due("6: clean again", 0, () -> x.change(0));
        x.put(11, 0, 1);
        x.cut(11, 0);
        CHECK.refused("6: a file without lines is not clean", STATE, x, () -> x.change(0));
        CHECK.due("6: a file without lines is not clean", 0, () -> x.commit(0));
    }

    private static void cleanWithHead() {
        Branchwork x = Stores.line("0[1] 11" + TEN);
        CHECK.refused("6: clean", STATE, x, () -> x.commit(0));
        x.cut(11, 9);
        CHECK.refused("6: a line less in the last file", STATE, x, () -> x.change(0));
        x.put(11, 9, 9);
        CHECK.due("6: clean again", 0, () -> x.change(0));
        x.remove(0);
        CHECK.refused("6: a file less", STATE, x, () -> x.change(0));
        x.put(0, 0, 2);
        CHECK.refused("6: another line in the first file", STATE, x, () -> x.change(0));
        x.put(0, 0, 1);
        x.cut(0, 1);
        CHECK.due("6: clean again", 0, () -> x.change(0));
        x.rename(0, 1);
        CHECK.refused("6: a file at another path", STATE, x, () -> x.change(0));
        CHECK.due("6: not clean", 1, () -> x.commit(0));
    }

    private static void cleanWithoutFiles() {
        Branchwork x = Stores.line("0[1]", "");
        CHECK.due("6: both without files", 0, () -> x.status(0));
        CHECK.refused("6: both without files are clean", STATE, x, () -> x.commit(0));
        CHECK.due("6: both without files are clean", 0, () -> x.change(0));
        x.put(0, 0, 1);
        x.cut(0, 0);
        CHECK.refused("6: a file without lines is not clean", STATE, x, () -> x.change(0));
    }
}
