/** Writes and shows whole files, so that a test can say them in one line. */
final class Files {
    private Files() {
    }

    /** A new store with these files, file by file its path and its lines, committed with note 0. */
    static Branchwork committed(int[]... files) {
        Branchwork x = new Branchwork();
        for (int[] file : files) {
            write(x, file[0], java.util.Arrays.copyOfRange(file, 1, file.length));
        }
        x.commit(0);
        return x;
    }

    static int[] file(int... pathAndLines) {
        return pathAndLines;
    }

    /** The files that showAll would show as that: "0[1 2] 5[]". */
    static int[][] tree(String shown) {
        String[] parts = shown.isEmpty() ? new String[0] : shown.split("\\] ?");
        int[][] files = new int[parts.length][];
        for (int i = 0; i < parts.length; i++) {
            String[] numbers = parts[i].split("[\\[ ]");
            files[i] = new int[numbers.length];
            for (int k = 0; k < numbers.length; k++) {
                files[i][k] = Integer.parseInt(numbers[k]);
            }
        }
        return files;
    }

    /** Makes the file in the working tree be these lines, whatever it was. */
    static void write(Branchwork x, int path, int... lines) {
        if (x.size(-1, path) < 0) {
            x.put(path, 0, 0);
        }
        while (x.size(-1, path) > 0) {
            x.cut(path, 0);
        }
        for (int i = 0; i < lines.length; i++) {
            x.put(path, i, lines[i]);
        }
    }

    static String show(Branchwork x, int commit, int path) {
        if (x.size(commit, path) < 0) {
            return "none";
        }
        StringBuilder lines = new StringBuilder("[");
        for (int place = 0; place < x.size(commit, path); place++) {
            lines.append(place == 0 ? "" : " ").append(x.line(commit, path, place));
        }
        return lines.append("]").toString();
    }

    /** All files of a tree: "0[1 2] 5[]". */
    static String showAll(Branchwork x, int commit) {
        StringBuilder all = new StringBuilder();
        for (int path = 0; path < 12; path++) {
            if (x.size(commit, path) >= 0) {
                all.append(all.length() == 0 ? "" : " ").append(path).append(show(x, commit, path));
            }
        }
        return all.toString();
    }

    /** All conflicts, each its code and its path: "1@3 5@2". */
    static String showConflicts(Branchwork x) {
        StringBuilder all = new StringBuilder();
        for (int i = 0; i < x.many(3); i++) {
            all.append(i == 0 ? "" : " ").append(x.conflict(i, 0)).append("@").append(x.conflict(i, 1));
        }
        return all.toString();
    }
}
