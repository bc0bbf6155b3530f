import java.util.ArrayDeque;
import java.util.ArrayList;
import java.util.HashSet;
import java.util.List;
import java.util.Map;
import java.util.Set;
import java.util.TreeMap;
import java.util.TreeSet;

/** The document once more, as slowly and as near to its words as can be, to compare the class with. */
public final class Model {
    private record Commit(int number, TreeMap<Integer, List<Integer>> tree, int note, int first, int second) {
    }

    private record Conflict(int code, int path) {
    }

    private record Merge(TreeMap<Integer, List<Integer>> tree, List<Conflict> conflicts) {
    }

    private record Blend(List<Integer> lines, boolean torn) {
    }

    private TreeMap<Integer, List<Integer>> work = new TreeMap<>();
    private final TreeMap<Integer, Commit> commits = new TreeMap<>();
    private final List<Integer> branches = new ArrayList<>(List.of(-1));
    private List<Conflict> conflicts = new ArrayList<>();
    private int everMade = 0;
    private int current = 0;
    private int merging = -1;

    // ---- the working tree

    public int put(int path, int place, int line) {
        path(path);
        List<Integer> file = work.getOrDefault(path, new ArrayList<>());
        index(place >= 0 && place <= file.size());
        argument(line >= 0 && line <= 99);
        state(file.size() < 10);
        List<Integer> changed = new ArrayList<>(file);
        changed.add(place, line);
        work.put(path, changed);
        return changed.size();
    }

    public int cut(int path, int place) {
        index(work.containsKey(path));
        index(place >= 0 && place < work.get(path).size());
        List<Integer> changed = new ArrayList<>(work.get(path));
        changed.remove(place);
        work.put(path, changed);
        return changed.size();
    }

    public int rename(int path, int to) {
        index(work.containsKey(path));
        path(to);
        state(!work.containsKey(to));
        work.put(to, work.remove(path));
        return work.get(to).size();
    }

    public int remove(int path) {
        index(work.containsKey(path));
        work.remove(path);
        return work.size();
    }

    public int status(int path) {
        path(path);
        List<Integer> here = work.get(path);
        List<Integer> there = treeOf(head()).get(path);
        if (here == null) {
            return there == null ? 0 : 3;
        }
        if (there == null) {
            return 1;
        }
        return here.equals(there) ? 0 : 2;
    }

    // ---- commits and branches

    public int commit(int note) {
        argument(note >= 0 && note <= 999);
        state(everMade < 30);
        state(conflicts.isEmpty());
        state(!clean() || merging >= 0);
        commits.put(everMade, new Commit(everMade, new TreeMap<>(work), note, head(), merging));
        merging = -1;
        branches.set(current, everMade);
        return everMade++;
    }

    public int branch() {
        state(head() >= 0);
        state(branches.size() < 5);
        branches.add(head());
        return branches.size() - 1;
    }

    public int change(int branch) {
        isBranch(branch);
        state(clean() && merging < 0);
        int before = current;
        current = branch;
        work = new TreeMap<>(treeOf(head()));
        return before;
    }

    public int reset(int commit) {
        isCommit(commit);
        int before = head();
        branches.set(current, commit);
        work = new TreeMap<>(treeOf(commit));
        merging = -1;
        conflicts = new ArrayList<>();
        return before;
    }

    public int merge(int branch) {
        isBranch(branch);
        state(head() >= 0);
        state(clean());
        state(merging < 0);
        int other = branches.get(branch);
        if (ancestors(head()).contains(other)) {
            return -1;
        }
        if (ancestors(other).contains(head())) {
            branches.set(current, other);
            work = new TreeMap<>(treeOf(other));
            return -2;
        }
        Merge done = merged(treeOf(baseOf(head(), other)), treeOf(head()), treeOf(other));
        work = done.tree();
        conflicts = done.conflicts();
        merging = other;
        return conflicts.size();
    }

    public int settle(int conflict) {
        index(conflict >= 0 && conflict < conflicts.size());
        conflicts.remove(conflict);
        return conflicts.size();
    }

    public int collect() {
        int before = objects(commits.keySet());
        commits.keySet().retainAll(reached());
        return before - objects(commits.keySet());
    }

    // ---- asking

    public int many(int what) {
        argument(what >= 0 && what <= 5);
        return switch (what) {
            case 0 -> commits.size();
            case 1 -> branches.size();
            case 2 -> work.size();
            case 3 -> conflicts.size();
            case 4 -> trees(commits.keySet()).size();
            default -> contents(commits.keySet()).size();
        };
    }

    public int now(int what) {
        argument(what >= 0 && what <= 2);
        return what == 0 ? current : what == 1 ? head() : merging;
    }

    public int at(int branch) {
        isBranch(branch);
        return branches.get(branch);
    }

    public int ofCommit(int commit, int what) {
        isCommit(commit);
        argument(what >= 0 && what <= 5);
        Commit asked = commits.get(commit);
        return switch (what) {
            case 0 -> asked.first();
            case 1 -> asked.second();
            case 2 -> asked.note();
            case 3 -> asked.tree().size();
            case 4 -> ancestors(commit).size();
            default -> reached().contains(commit) ? 1 : 0;
        };
    }

    public int line(int commit, int path, int place) {
        index(commit == -1 || commits.containsKey(commit));
        path(path);
        List<Integer> file = (commit == -1 ? work : treeOf(commit)).get(path);
        if (file == null) {
            return -2;
        }
        return place >= 0 && place < file.size() ? file.get(place) : -1;
    }

    public int size(int commit, int path) {
        index(commit == -1 || commits.containsKey(commit));
        path(path);
        List<Integer> file = (commit == -1 ? work : treeOf(commit)).get(path);
        return file == null ? -1 : file.size();
    }

    public int conflict(int conflict, int what) {
        index(conflict >= 0 && conflict < conflicts.size());
        argument(what == 0 || what == 1);
        return what == 0 ? conflicts.get(conflict).code() : conflicts.get(conflict).path();
    }

    public int base(int a, int b) {
        isCommit(a);
        isCommit(b);
        return baseOf(a, b);
    }

    // ---- what became otherwise

    public int went(int a, int b, int path) {
        isCommit(a);
        isCommit(b);
        path(path);
        if (!treeOf(a).containsKey(path)) {
            return -2;
        }
        if (treeOf(b).containsKey(path)) {
            return path;
        }
        return renames(treeOf(a), treeOf(b)).getOrDefault(path, -1);
    }

    public int changes(int a, int b, int what) {
        isCommit(a);
        isCommit(b);
        argument(what >= 0 && what <= 3);
        Map<Integer, Integer> renames = renames(treeOf(a), treeOf(b));
        Set<Integer> onlyA = new TreeSet<>(treeOf(a).keySet());
        onlyA.removeAll(treeOf(b).keySet());
        Set<Integer> onlyB = new TreeSet<>(treeOf(b).keySet());
        onlyB.removeAll(treeOf(a).keySet());
        Set<Integer> both = new TreeSet<>(treeOf(a).keySet());
        both.retainAll(treeOf(b).keySet());
        if (what == 0) {
            onlyB.removeAll(renames.values());
            return onlyB.size();
        }
        if (what == 1) {
            onlyA.removeAll(renames.keySet());
            return onlyA.size();
        }
        if (what == 2) {
            return renames.size();
        }
        both.removeIf(path -> treeOf(a).get(path).equals(treeOf(b).get(path)));
        return both.size();
    }

    public int nearness(int a, int path, int b, int other) {
        isCommit(a);
        index(treeOf(a).containsKey(path));
        isCommit(b);
        index(treeOf(b).containsKey(other));
        return near(treeOf(a).get(path), treeOf(b).get(other));
    }

    public int origin(int commit, int path, int place) {
        isCommit(commit);
        index(treeOf(commit).containsKey(path));
        index(place >= 0 && place < treeOf(commit).get(path).size());
        for (int parent : new int[] {commits.get(commit).first(), commits.get(commit).second()}) {
            if (parent < 0) {
                continue;
            }
            int from = -1;
            if (treeOf(parent).containsKey(path)) {
                from = path;
            } else {
                for (Map.Entry<Integer, Integer> rename : renames(treeOf(parent), treeOf(commit)).entrySet()) {
                    if (rename.getValue() == path) {
                        from = rename.getKey();
                    }
                }
            }
            if (from >= 0) {
                for (int[] pair : match(treeOf(parent).get(from), treeOf(commit).get(path))) {
                    if (pair[1] == place) {
                        return origin(parent, from, pair[0]);
                    }
                }
            }
        }
        return commit;
    }

    // ---- what would be

    public int conflictsOf(int a, int b) {
        isCommit(a);
        isCommit(b);
        return merged(treeOf(baseOf(a, b)), treeOf(a), treeOf(b)).conflicts().size();
    }

    public int garbage() {
        return objects(commits.keySet()) - objects(reached());
    }

    public double meanLines() {
        Set<List<Integer>> contents = contents(commits.keySet());
        int lines = 0;
        for (List<Integer> content : contents) {
            lines += content.size();
        }
        return contents.isEmpty() ? 0 : 1.0 * lines / contents.size();
    }

    public long digest() {
        List<Integer> numbers = new ArrayList<>();
        for (int what = 0; what <= 5; what++) {
            numbers.add(many(what));
        }
        for (int what = 0; what <= 2; what++) {
            numbers.add(now(what));
        }
        numbers.addAll(branches);
        for (int path = 0; path < 12; path++) {
            numbers.add(status(path));
        }
        listFiles(numbers, -1);
        for (int commit : commits.keySet()) {
            numbers.add(commit);
            for (int what = 0; what <= 5; what++) {
                numbers.add(ofCommit(commit, what));
            }
            listFiles(numbers, commit);
        }
        for (Conflict conflict : conflicts) {
            numbers.add(conflict.code());
            numbers.add(conflict.path());
        }
        numbers.add(garbage());
        long d = 58087;
        for (int x : numbers) {
            d = d * 31 + x;
        }
        return d;
    }

    private void listFiles(List<Integer> numbers, int commit) {
        for (int path = 0; path < 12; path++) {
            numbers.add(size(commit, path));
            for (int place = 0; place < size(commit, path); place++) {
                numbers.add(line(commit, path, place));
            }
        }
    }

    // ---- the terms

    private int head() {
        return branches.get(current);
    }

    private boolean clean() {
        return work.equals(treeOf(head()));
    }

    private TreeMap<Integer, List<Integer>> treeOf(int commit) {
        return commit < 0 ? new TreeMap<>() : commits.get(commit).tree();
    }

    private Set<Integer> ancestors(int commit) {
        Set<Integer> all = new TreeSet<>();
        ArrayDeque<Integer> next = new ArrayDeque<>(List.of(commit));
        while (!next.isEmpty()) {
            int met = next.remove();
            if (met >= 0 && all.add(met)) {
                next.add(commits.get(met).first());
                next.add(commits.get(met).second());
            }
        }
        return all;
    }

    private int baseOf(int a, int b) {
        TreeSet<Integer> common = new TreeSet<>(ancestors(a));
        common.retainAll(ancestors(b));
        return common.isEmpty() ? -1 : common.last();
    }

    private Set<Integer> reached() {
        Set<Integer> all = new TreeSet<>(ancestors(merging));
        for (int at : branches) {
            all.addAll(ancestors(at));
        }
        return all;
    }

    private Set<TreeMap<Integer, List<Integer>>> trees(Set<Integer> of) {
        Set<TreeMap<Integer, List<Integer>>> all = new HashSet<>();
        for (int commit : of) {
            all.add(treeOf(commit));
        }
        return all;
    }

    private Set<List<Integer>> contents(Set<Integer> of) {
        Set<List<Integer>> all = new HashSet<>();
        for (int commit : of) {
            all.addAll(treeOf(commit).values());
        }
        return all;
    }

    private int objects(Set<Integer> of) {
        return of.size() + trees(of).size() + contents(of).size();
    }

    private static int common(List<Integer> a, List<Integer> b) {
        int[][] best = new int[a.size() + 1][b.size() + 1];
        for (int i = 1; i <= a.size(); i++) {
            for (int j = 1; j <= b.size(); j++) {
                best[i][j] = a.get(i - 1).equals(b.get(j - 1))
                        ? best[i - 1][j - 1] + 1 : Math.max(best[i - 1][j], best[i][j - 1]);
            }
        }
        return best[a.size()][b.size()];
    }

    private static List<int[]> match(List<Integer> a, List<Integer> b) {
        List<int[]> pairs = new ArrayList<>();
        int i = 0;
        int j = 0;
        while (i < a.size() && j < b.size()) {
            if (a.get(i).equals(b.get(j))) {
                pairs.add(new int[] {i++, j++});
            } else if (common(a.subList(i + 1, a.size()), b.subList(j, b.size()))
                    >= common(a.subList(i, a.size()), b.subList(j + 1, b.size()))) {
                i++;
            } else {
                j++;
            }
        }
        return pairs;
    }

    private static int near(List<Integer> a, List<Integer> b) {
        return a.isEmpty() && b.isEmpty() ? 100 : 200 * match(a, b).size() / (a.size() + b.size());
    }

    private static Map<Integer, Integer> renames(Map<Integer, List<Integer>> a, Map<Integer, List<Integer>> b) {
        Map<Integer, Integer> to = new TreeMap<>();
        for (int path : a.keySet()) {
            if (b.containsKey(path)) {
                continue;
            }
            int best = -1;
            for (int other : b.keySet()) {
                if (!a.containsKey(other) && !to.containsValue(other)
                        && (best < 0 || near(a.get(path), b.get(other)) > near(a.get(path), b.get(best)))) {
                    best = other;
                }
            }
            if (best >= 0 && near(a.get(path), b.get(best)) >= 60) {
                to.put(path, best);
            }
        }
        return to;
    }

    private static Blend blended(List<Integer> base, List<Integer> ours, List<Integer> theirs) {
        Map<Integer, Integer> inOurs = new TreeMap<>();
        for (int[] pair : match(base, ours)) {
            inOurs.put(pair[0], pair[1]);
        }
        Map<Integer, Integer> inTheirs = new TreeMap<>();
        for (int[] pair : match(base, theirs)) {
            inTheirs.put(pair[0], pair[1]);
        }
        List<Integer> firm = new ArrayList<>(inOurs.keySet());
        firm.retainAll(inTheirs.keySet());
        List<Integer> lines = new ArrayList<>();
        boolean torn = false;
        int b = 0;
        int o = 0;
        int t = 0;
        for (int k = 0; k <= firm.size(); k++) {
            boolean last = k == firm.size();
            List<Integer> basePart = base.subList(b, last ? base.size() : firm.get(k));
            List<Integer> ourPart = ours.subList(o, last ? ours.size() : inOurs.get(firm.get(k)));
            List<Integer> theirPart = theirs.subList(t, last ? theirs.size() : inTheirs.get(firm.get(k)));
            if (ourPart.equals(basePart)) {
                lines.addAll(theirPart);
            } else if (theirPart.equals(basePart) || theirPart.equals(ourPart)) {
                lines.addAll(ourPart);
            } else {
                lines.addAll(ourPart);
                lines.addAll(theirPart);
                torn = true;
            }
            if (!last) {
                lines.add(base.get(firm.get(k)));
                b = firm.get(k) + 1;
                o = inOurs.get(firm.get(k)) + 1;
                t = inTheirs.get(firm.get(k)) + 1;
            }
        }
        return new Blend(new ArrayList<>(lines.subList(0, Math.min(10, lines.size()))), torn);
    }

    private static Merge merged(TreeMap<Integer, List<Integer>> base, TreeMap<Integer, List<Integer>> ours,
            TreeMap<Integer, List<Integer>> theirs) {
        TreeMap<Integer, List<Integer>> tree = new TreeMap<>();
        List<Conflict> told = new ArrayList<>();
        Map<Integer, Integer> toOurs = renames(base, ours);
        Map<Integer, Integer> toTheirs = renames(base, theirs);
        for (int p : base.keySet()) {
            int o = ours.containsKey(p) ? p : toOurs.getOrDefault(p, -1);
            int t = theirs.containsKey(p) ? p : toTheirs.getOrDefault(p, -1);
            if (o < 0 && t < 0) {
                continue;
            }
            List<Conflict> own = new ArrayList<>();
            List<Integer> content;
            int to;
            if (o < 0 || t < 0) {
                to = o < 0 ? t : o;
                content = o < 0 ? theirs.get(t) : ours.get(o);
                if (to == p && content.equals(base.get(p))) {
                    continue;
                }
                own.add(new Conflict(1, to));
            } else {
                if (o == t) {
                    to = o;
                } else if (o == p) {
                    to = t;
                } else {
                    to = o;
                    if (t != p) {
                        own.add(new Conflict(2, to));
                    }
                }
                Blend blend = blended(base.get(p), ours.get(o), theirs.get(t));
                content = blend.lines();
                if (blend.torn()) {
                    own.add(new Conflict(3, to));
                }
            }
            if (tree.containsKey(to)) {
                told.add(new Conflict(5, to));
            } else {
                tree.put(to, content);
                told.addAll(own);
            }
        }
        Set<Integer> came = new TreeSet<>();
        for (int p : ours.keySet()) {
            if (!base.containsKey(p) && !toOurs.containsValue(p)) {
                if (tree.containsKey(p)) {
                    told.add(new Conflict(5, p));
                } else {
                    tree.put(p, ours.get(p));
                    came.add(p);
                }
            }
        }
        for (int p : theirs.keySet()) {
            if (base.containsKey(p) || toTheirs.containsValue(p)) {
                continue;
            }
            if (came.contains(p)) {
                if (!ours.get(p).equals(theirs.get(p))) {
                    tree.put(p, blended(List.of(), ours.get(p), theirs.get(p)).lines());
                    told.add(new Conflict(4, p));
                }
            } else if (tree.containsKey(p)) {
                told.add(new Conflict(5, p));
            } else {
                tree.put(p, theirs.get(p));
            }
        }
        return new Merge(tree, told);
    }

    // ---- the exceptions

    private static void index(boolean fits) {
        if (!fits) {
            throw new IndexOutOfBoundsException();
        }
    }

    private static void argument(boolean fits) {
        if (!fits) {
            throw new IllegalArgumentException();
        }
    }

    private static void state(boolean fits) {
        if (!fits) {
            throw new IllegalStateException();
        }
    }

    private static void path(int path) {
        index(path >= 0 && path < 12);
    }

    private void isBranch(int branch) {
        index(branch >= 0 && branch < branches.size());
    }

    private void isCommit(int commit) {
        index(commits.containsKey(commit));
    }
}
