/** Stores that several tests begin with; each has had far less than its 512 calls. */
final class Stores {
    private Stores() {
    }

    /** Makes the working tree have just these files. */
    static void become(Branchwork x, int[]... files) {
        for (int path = 0; path < 12; path++) {
            if (x.size(-1, path) >= 0) {
                x.remove(path);
            }
        }
        for (int[] file : files) {
            Files.write(x, file[0], java.util.Arrays.copyOfRange(file, 1, file.length));
        }
    }

    /** Adds a commit with just these files. */
    static int commit(Branchwork x, int note, int[]... files) {
        become(x, files);
        return x.commit(note);
    }

    /** Commits with just these files, one after the other, from commit 0 on: "0[1 2] 5[]", as Files shows them. */
    static Branchwork line(String... trees) {
        Branchwork x = new Branchwork();
        for (String tree : trees) {
            commit(x, 0, Files.tree(tree));
        }
        return x;
    }

    /** Commit 0 is the base, 1 ours, 2 theirs; the current branch is 1, at ours, and branch 0 is at theirs. */
    static Branchwork apart(int[][] base, int[][] ours, int[][] theirs) {
        Branchwork x = Files.committed(base);
        x.branch();
        x.change(1);
        commit(x, 1, ours);
        x.change(0);
        commit(x, 2, theirs);
        x.change(1);
        return x;
    }

    static Branchwork apart(String base, String ours, String theirs) {
        return apart(Files.tree(base), Files.tree(ours), Files.tree(theirs));
    }

    /** Theirs, commit 2, is being merged into ours, commit 1, with the conflicts 3@0 1@1 4@2. */
    static Branchwork merging() {
        Branchwork x = apart("0[1] 1[1]", "0[3] 2[3]", "0[2] 1[2] 2[2]");
        x.merge(0);
        return x;
    }

    /** To merge theirs into ours gives 2 and 3 for each of six files: there are no more than 12 conflicts at once. */
    static Branchwork mostConflicts() {
        return apart("0[1 2] 1[3 4] 2[5 6] 3[7 8] 4[9 10] 5[11 12]",
                "6[1 2 20] 7[3 4 20] 8[5 6 20] 9[7 8 20] 10[9 10 20] 11[11 12 20]",
                "7[1 2 30] 8[3 4 30] 9[5 6 30] 10[7 8 30] 11[9 10 30] 6[11 12 30]");
    }

    /** Commit 1 is gone; 0, 2 and 3 are not, and 3 has the content that 1 had first. */
    static Branchwork collected() {
        Branchwork x = line("0[1]", "0[1] 3[4 5 6]");
        x.reset(0);
        commit(x, 0, Files.tree("0[2]"));
        commit(x, 0, Files.tree("0[2] 7[4 5 6]"));
        x.collect();
        return x;
    }

    /** 30 commits, each the parent of the next one, 5 branches, the first one current, 12 files of 10 lines each. */
    static Branchwork full() {
        Branchwork x = new Branchwork();
        for (int path = 0; path < 12; path++) {
            for (int place = 0; place < 10; place++) {
                x.put(path, place, path * 8 + place);
            }
        }
        x.commit(0);
        for (int i = 1; i < 30; i++) {
            x.cut(11, 9);
            x.put(11, 9, i);
            x.commit(999);
        }
        for (int i = 1; i < 5; i++) {
            x.branch();
        }
        return x;
    }
}
