import java.util.Arrays;

/** A store of versions: a working tree, commits on branches, merges with renames, and collecting. */
public final class Branchwork {
    private static final int PATHS = 12;
    private static final int MOST_LINES = 10;
    private static final int LAST_LINE = 99;
    private static final int LAST_NOTE = 999;
    private static final int MOST_COMMITS = 30;
    private static final int MOST_BRANCHES = 5;
    /** Each path of the base tells two at most, each other path one of each side: 24 in all. */
    private static final int MOST_CONFLICTS = 2 * PATHS;
    private static final int LEAST_NEARNESS = 60;
    private static final int NONE = -1;

    private static final int ALREADY_IN = -1;
    private static final int MOVED_AHEAD = -2;

    private static final int LEFT_OUT = 1;
    private static final int MOVED_APART = 2;
    private static final int TORN = 3;
    private static final int BOTH_NEW = 4;
    private static final int TAKEN = 5;

    private static final long DIGEST_START = 58087L;
    private static final long DIGEST_FACTOR = 31L;

    private final Tree working = new Tree();
    private final History history = new History();
    private final Merger merger = new Merger();
    private final Conflicts conflicts = new Conflicts();
    private final Renames renames = new Renames();
    private final Match match = new Match();
    private final int[] tips = new int[MOST_BRANCHES];
    private int branches = 1;
    private int current = 0;
    private int merged = NONE;

    public Branchwork() {
        Arrays.fill(tips, NONE);
    }

    // ---- the working tree

    public int put(int path, int place, int line)
            throws IndexOutOfBoundsException, IllegalArgumentException, IllegalStateException {
        requirePath(path);
        Content file = working.fileAt(path);
        if (place < 0 || place > file.length()) {
            throw new IndexOutOfBoundsException("no such place");
        }
        if (line < 0 || line > LAST_LINE) {
            throw new IllegalArgumentException("no such line");
        }
        if (file.isFull()) {
            throw new IllegalStateException("the file is full");
        }
        file.insert(place, line);
        return file.length();
    }

    public int cut(int path, int place) throws IndexOutOfBoundsException {
        requireFile(working, path);
        Content file = working.fileAt(path);
        requirePlace(file, place);
        file.takeOut(place);
        return file.length();
    }

    public int rename(int path, int to) throws IndexOutOfBoundsException, IllegalStateException {
        requireFile(working, path);
        requirePath(to);
        if (working.has(to)) {
            throw new IllegalStateException("there is a file already");
        }
        Content file = working.fileAt(path);
        working.fileAt(to).copyFrom(file);
        file.becomeAbsent();
        return working.fileAt(to).length();
    }

    public int remove(int path) throws IndexOutOfBoundsException {
        requireFile(working, path);
        working.fileAt(path).becomeAbsent();
        return working.countFiles();
    }

    public int status(int path) throws IndexOutOfBoundsException {
        requirePath(path);
        Tree before = history.treeOf(head());
        if (working.fileAt(path).sameAs(before.fileAt(path))) {
            return 0;
        }
        if (!before.has(path)) {
            return 1;
        }
        return working.has(path) ? 2 : 3;
    }

    // ---- commits and branches

    public int commit(int note) throws IllegalArgumentException, IllegalStateException {
        if (note < 0 || note > LAST_NOTE) {
            throw new IllegalArgumentException("no such note");
        }
        if (history.isFull()) {
            throw new IllegalStateException("there were 30 commits");
        }
        if (conflicts.howMany() > 0) {
            throw new IllegalStateException("conflicts are not settled");
        }
        if (merged == NONE && isClean()) {
            throw new IllegalStateException("there is nothing to commit");
        }
        int number = history.add(working, note, head(), merged);
        tips[current] = number;
        merged = NONE;
        return number;
    }

    public int branch() throws IllegalStateException {
        if (head() == NONE) {
            throw new IllegalStateException("there is no commit");
        }
        if (branches >= MOST_BRANCHES) {
            throw new IllegalStateException("there are 5 branches");
        }
        tips[branches] = head();
        branches++;
        return branches - 1;
    }

    public int change(int branch) throws IndexOutOfBoundsException, IllegalStateException {
        requireBranch(branch);
        requireCleanAndUnmerged();
        int before = current;
        current = branch;
        working.copyFrom(history.treeOf(head()));
        return before;
    }

    public int reset(int commit) throws IndexOutOfBoundsException {
        requireCommit(commit);
        int before = head();
        tips[current] = commit;
        working.copyFrom(history.treeOf(commit));
        merged = NONE;
        conflicts.clear();
        return before;
    }

    public int merge(int branch) throws IndexOutOfBoundsException, IllegalStateException {
        requireBranch(branch);
        if (head() == NONE) {
            throw new IllegalStateException("there is no commit");
        }
        requireCleanAndUnmerged();
        int ours = head();
        int theirs = tips[branch];
        int common = history.commonAncestor(ours, theirs);
        if (common == theirs) {
            return ALREADY_IN;
        }
        if (common == ours) {
            tips[current] = theirs;
            working.copyFrom(history.treeOf(theirs));
            return MOVED_AHEAD;
        }
        merger.mergeTrees(history.treeOf(common), history.treeOf(ours), history.treeOf(theirs));
        working.copyFrom(merger.result());
        conflicts.copyFrom(merger.told());
        merged = theirs;
        return conflicts.howMany();
    }

    public int settle(int conflict) throws IndexOutOfBoundsException {
        requireConflict(conflict);
        conflicts.drop(conflict);
        return conflicts.howMany();
    }

    public int collect() {
        int less = garbage();
        history.keepOnly(reached());
        return less;
    }

    // ---- asking

    public int many(int what) throws IllegalArgumentException {
        switch (what) {
            case 0:
                return Integer.bitCount(history.kept());
            case 1:
                return branches;
            case 2:
                return working.countFiles();
            case 3:
                return conflicts.howMany();
            case 4:
                return history.countTrees(history.kept());
            case 5:
                return history.countContents(history.kept());
            default:
                throw new IllegalArgumentException("what is not 0 to 5");
        }
    }

    public int now(int what) throws IllegalArgumentException {
        switch (what) {
            case 0:
                return current;
            case 1:
                return head();
            case 2:
                return merged;
            default:
                throw new IllegalArgumentException("what is not 0 to 2");
        }
    }

    public int at(int branch) throws IndexOutOfBoundsException {
        requireBranch(branch);
        return tips[branch];
    }

    public int ofCommit(int commit, int what) throws IndexOutOfBoundsException, IllegalArgumentException {
        requireCommit(commit);
        switch (what) {
            case 0:
                return history.firstParent(commit);
            case 1:
                return history.secondParent(commit);
            case 2:
                return history.noteOf(commit);
            case 3:
                return history.treeOf(commit).countFiles();
            case 4:
                return Integer.bitCount(history.ancestorsOf(commit));
            case 5:
                return History.isIn(commit, reached()) ? 1 : 0;
            default:
                throw new IllegalArgumentException("what is not 0 to 5");
        }
    }

    public int line(int commit, int path, int place) throws IndexOutOfBoundsException {
        Content file = fileToShow(commit, path);
        return file.exists() ? file.lineAt(place) : -2;
    }

    public int size(int commit, int path) throws IndexOutOfBoundsException {
        Content file = fileToShow(commit, path);
        return file.exists() ? file.length() : -1;
    }

    public int conflict(int conflict, int what) throws IndexOutOfBoundsException, IllegalArgumentException {
        requireConflict(conflict);
        switch (what) {
            case 0:
                return conflicts.codeOf(conflict);
            case 1:
                return conflicts.pathOf(conflict);
            default:
                throw new IllegalArgumentException("what is neither 0 nor 1");
        }
    }

    public int base(int a, int b) throws IndexOutOfBoundsException {
        requireCommit(a);
        requireCommit(b);
        return history.commonAncestor(a, b);
    }

    // ---- what became otherwise

    public int went(int a, int b, int path) throws IndexOutOfBoundsException {
        requireCommit(a);
        requireCommit(b);
        requirePath(path);
        if (!history.treeOf(a).has(path)) {
            return -2;
        }
        renames.trace(history.treeOf(a), history.treeOf(b));
        return renames.fateOf(path);
    }

    public int changes(int a, int b, int what) throws IndexOutOfBoundsException, IllegalArgumentException {
        requireCommit(a);
        requireCommit(b);
        if (what < 0 || what > 3) {
            throw new IllegalArgumentException("what is not 0 to 3");
        }
        Tree first = history.treeOf(a);
        Tree second = history.treeOf(b);
        renames.trace(first, second);
        int count = 0;
        for (int path = 0; path < PATHS; path++) {
            if (kindOfChange(first, second, path) == what) {
                count++;
            }
        }
        return count + (what == 2 ? renames.howMany() : 0);
    }

    public int nearness(int a, int path, int b, int other) throws IndexOutOfBoundsException {
        requireCommit(a);
        requireFile(history.treeOf(a), path);
        requireCommit(b);
        requireFile(history.treeOf(b), other);
        return match.nearnessOf(history.treeOf(a).fileAt(path), history.treeOf(b).fileAt(other));
    }

    public int origin(int commit, int path, int place) throws IndexOutOfBoundsException {
        requireCommit(commit);
        requireFile(history.treeOf(commit), path);
        requirePlace(history.treeOf(commit).fileAt(path), place);
        int where = commit;
        int spot = path * MOST_LINES + place;
        // Every step goes to a smaller number, so it ends within as many steps as there are commits.
        for (int step = 0; step < MOST_COMMITS; step++) {
            int parent = history.firstParent(where);
            int older = spotInParent(parent, where, spot);
            if (older == NONE) {
                parent = history.secondParent(where);
                older = spotInParent(parent, where, spot);
            }
            if (older == NONE) {
                return where;
            }
            where = parent;
            spot = older;
        }
        return where;
    }

    // ---- what would be (nothing is changed)

    public int conflictsOf(int a, int b) throws IndexOutOfBoundsException {
        requireCommit(a);
        requireCommit(b);
        int common = history.commonAncestor(a, b);
        merger.mergeTrees(history.treeOf(common), history.treeOf(a), history.treeOf(b));
        return merger.told().howMany();
    }

    public int garbage() {
        return history.countObjects(history.kept()) - history.countObjects(reached());
    }

    public double meanLines() {
        int contents = history.countContents(history.kept());
        if (contents <= 0) {
            return 0.0;
        }
        return (double) history.sumLines(history.kept()) / (double) contents;
    }

    public long digest() {
        long d = DIGEST_START;
        for (int what = 0; what <= 5; what++) {
            d = fold(d, many(what));
        }
        for (int what = 0; what <= 2; what++) {
            d = fold(d, now(what));
        }
        for (int i = 0; i < branches; i++) {
            d = fold(d, at(i));
        }
        for (int path = 0; path < PATHS; path++) {
            d = fold(d, status(path));
        }
        d = foldTree(d, working);
        for (int i = 0; i < MOST_COMMITS; i++) {
            if (history.holds(i)) {
                d = foldCommit(d, i);
            }
        }
        for (int i = 0; i < conflicts.howMany(); i++) {
            d = fold(fold(d, conflicts.codeOf(i)), conflicts.pathOf(i));
        }
        return fold(d, garbage());
    }

    private static long fold(long d, int x) {
        return d * DIGEST_FACTOR + x;
    }

    private static long foldTree(long d, Tree tree) {
        long folded = d;
        for (int path = 0; path < PATHS; path++) {
            Content file = tree.fileAt(path);
            folded = fold(folded, file.exists() ? file.length() : -1);
            for (int place = 0; place < file.length(); place++) {
                folded = fold(folded, file.lineAt(place));
            }
        }
        return folded;
    }

    private long foldCommit(long d, int commit) {
        long folded = fold(d, commit);
        for (int what = 0; what <= 5; what++) {
            folded = fold(folded, ofCommit(commit, what));
        }
        return foldTree(folded, history.treeOf(commit));
    }

    private int head() {
        return tips[current];
    }

    private boolean isClean() {
        return working.sameAs(history.treeOf(head()));
    }

    private int reached() {
        int set = History.setOf(merged);
        for (int i = 0; i < MOST_BRANCHES; i++) {
            set |= History.setOf(tips[i]);
        }
        return history.withAncestors(set);
    }

    private Content fileToShow(int commit, int path) {
        if (commit != NONE) {
            requireCommit(commit);
        }
        requirePath(path);
        return commit == NONE ? working.fileAt(path) : history.treeOf(commit).fileAt(path);
    }

    /** What changes() tells of a path itself; renames are counted apart, as each has two paths. */
    private int kindOfChange(Tree first, Tree second, int path) {
        if (first.has(path)) {
            if (second.has(path)) {
                return first.fileAt(path).sameAs(second.fileAt(path)) ? NONE : 3;
            }
            return renames.fateOf(path) == NONE ? 1 : NONE;
        }
        return second.has(path) && renames.sourceOf(path) == NONE ? 0 : NONE;
    }

    /** A spot is a path and a place in one number, as a line's way back needs both at once. */
    private int spotInParent(int parent, int commit, int spot) {
        if (parent == NONE) {
            return NONE;
        }
        Tree older = history.treeOf(parent);
        Tree newer = history.treeOf(commit);
        int path = spot / MOST_LINES;
        int from = path;
        if (!older.has(path)) {
            renames.trace(older, newer);
            from = renames.sourceOf(path);
        }
        if (from == NONE) {
            return NONE;
        }
        match.pairUp(older.fileAt(from), newer.fileAt(path));
        int partner = match.partnerInA(spot % MOST_LINES);
        return partner == NONE ? NONE : from * MOST_LINES + partner;
    }

    private static void requirePath(int path) {
        if (path < 0 || path >= PATHS) {
            throw new IndexOutOfBoundsException("no such path");
        }
    }

    private static void requireFile(Tree tree, int path) {
        if (!tree.has(path)) {
            throw new IndexOutOfBoundsException("no such file");
        }
    }

    private static void requirePlace(Content file, int place) {
        if (!file.holds(place)) {
            throw new IndexOutOfBoundsException("no such line");
        }
    }

    private void requireCommit(int commit) {
        if (!history.holds(commit)) {
            throw new IndexOutOfBoundsException("no such commit");
        }
    }

    private void requireBranch(int branch) {
        if (branch < 0 || branch >= branches) {
            throw new IndexOutOfBoundsException("no such branch");
        }
    }

    private void requireConflict(int conflict) {
        if (!conflicts.holds(conflict)) {
            throw new IndexOutOfBoundsException("no such conflict");
        }
    }

    private void requireCleanAndUnmerged() {
        if (!isClean()) {
            throw new IllegalStateException("the working tree is not clean");
        }
        if (merged != NONE) {
            throw new IllegalStateException("something is being merged");
        }
    }

    /** What stands at a path: the lines of a file, or that there is no file. */
    private static final class Content {
        private final int[] lines = new int[MOST_LINES];
        private int count = 0;
        private boolean present = false;

        boolean exists() {
            return present;
        }

        int length() {
            return count;
        }

        boolean isFull() {
            return count >= MOST_LINES;
        }

        boolean holds(int place) {
            return place >= 0 && place < count && place < MOST_LINES;
        }

        int lineAt(int place) {
            return place >= 0 && place < count && place < MOST_LINES ? lines[place] : NONE;
        }

        void becomeAbsent() {
            count = 0;
            present = false;
        }

        void becomeEmpty() {
            count = 0;
            present = true;
        }

        void insert(int place, int line) {
            if (place < 0 || place > count || count >= MOST_LINES) {
                return;
            }
            for (int i = count; i > place; i--) {
                lines[i] = lines[i - 1];
            }
            lines[place] = line;
            count++;
            present = true;
        }

        void takeOut(int place) {
            if (!holds(place)) {
                return;
            }
            for (int i = place; i < count - 1; i++) {
                lines[i] = lines[i + 1];
            }
            count--;
        }

        /** Lines behind the tenth are left out, as a blend wants it. */
        void append(int line) {
            if (count < MOST_LINES) {
                lines[count] = line;
                count++;
            }
        }

        void appendAll(Content other) {
            for (int i = 0; i < other.length(); i++) {
                append(other.lineAt(i));
            }
        }

        void becomePart(Content whole, int from, int end) {
            becomeEmpty();
            for (int i = from; i < end; i++) {
                append(whole.lineAt(i));
            }
        }

        void copyFrom(Content other) {
            count = Math.min(other.length(), MOST_LINES);
            present = other.exists();
            for (int i = 0; i < count; i++) {
                lines[i] = other.lineAt(i);
            }
        }

        boolean sameAs(Content other) {
            if (present != other.exists() || count != other.length()) {
                return false;
            }
            for (int i = 0; i < count; i++) {
                if (lines[i] != other.lineAt(i)) {
                    return false;
                }
            }
            return true;
        }
    }

    /** A content for each path. */
    private static final class Tree {
        private final Content[] files = new Content[PATHS];
        private final Content outside = new Content();

        Tree() {
            for (int path = 0; path < PATHS; path++) {
                files[path] = new Content();
            }
        }

        /** Answers for every number, so that no caller can go astray: beside the paths there is no file. */
        Content fileAt(int path) {
            return path >= 0 && path < PATHS ? files[path] : outside;
        }

        boolean has(int path) {
            return fileAt(path).exists();
        }

        int countFiles() {
            int count = 0;
            for (int path = 0; path < PATHS; path++) {
                if (has(path)) {
                    count++;
                }
            }
            return count;
        }

        void clear() {
            for (int path = 0; path < PATHS; path++) {
                files[path].becomeAbsent();
            }
        }

        void copyFrom(Tree other) {
            for (int path = 0; path < PATHS; path++) {
                files[path].copyFrom(other.fileAt(path));
            }
        }

        boolean sameAs(Tree other) {
            for (int path = 0; path < PATHS; path++) {
                if (!files[path].sameAs(other.fileAt(path))) {
                    return false;
                }
            }
            return true;
        }
    }

    /** The match of two contents a and b. */
    private static final class Match {
        private static final int SIDE = MOST_LINES + 1;
        /** L(i, j) of the document at i * SIDE + j. */
        private final int[] common = new int[SIDE * SIDE];
        private final int[] partnersInB = new int[MOST_LINES];
        private final int[] partnersInA = new int[MOST_LINES];

        int partnerInB(int place) {
            return place >= 0 && place < MOST_LINES ? partnersInB[place] : NONE;
        }

        int partnerInA(int place) {
            return place >= 0 && place < MOST_LINES ? partnersInA[place] : NONE;
        }

        int nearnessOf(Content a, Content b) {
            int both = a.length() + b.length();
            if (both <= 0) {
                return 100;
            }
            // The walk pairs a line with one wherever it can, so its pairs are as many as L(0, 0).
            measure(a, b);
            return 200 * common[0] / both;
        }

        void pairUp(Content a, Content b) {
            measure(a, b);
            Arrays.fill(partnersInA, NONE);
            Arrays.fill(partnersInB, NONE);
            int i = 0;
            int j = 0;
            while (i < a.length() && j < b.length()) {
                if (a.lineAt(i) == b.lineAt(j)) {
                    partnersInB[i] = j;
                    partnersInA[j] = i;
                    i++;
                    j++;
                } else if (common[(i + 1) * SIDE + j] >= common[i * SIDE + j + 1]) {
                    i++;
                } else {
                    j++;
                }
            }
        }

        private void measure(Content a, Content b) {
            Arrays.fill(common, 0);
            for (int i = a.length() - 1; i >= 0; i--) {
                int line = a.lineAt(i);
                for (int j = b.length() - 1; j >= 0; j--) {
                    int here = i * SIDE + j;
                    if (line == b.lineAt(j)) {
                        common[here] = common[here + SIDE + 1] + 1;
                    } else {
                        common[here] = Math.max(common[here + SIDE], common[here + 1]);
                    }
                }
            }
        }
    }

    /** What became of the paths of one tree in another one. */
    private static final class Renames {
        private final int[] fates = new int[PATHS];
        private final int[] sources = new int[PATHS];
        private final Match match = new Match();
        private int count = 0;

        void trace(Tree first, Tree second) {
            Arrays.fill(fates, NONE);
            Arrays.fill(sources, NONE);
            count = 0;
            for (int path = 0; path < PATHS; path++) {
                if (first.has(path)) {
                    fates[path] = second.has(path) ? path : nearest(first, path, second);
                }
            }
        }

        /** Where a file of the first tree is in the second one; NONE if nowhere. */
        int fateOf(int path) {
            return path >= 0 && path < PATHS ? fates[path] : NONE;
        }

        /** From where a file of the second tree was renamed; NONE if it was not. */
        int sourceOf(int path) {
            return path >= 0 && path < PATHS ? sources[path] : NONE;
        }

        int howMany() {
            return count;
        }

        private int nearest(Tree first, int path, Tree second) {
            int best = NONE;
            int bestNearness = LEAST_NEARNESS - 1;
            for (int other = 0; other < PATHS; other++) {
                if (second.has(other) && !first.has(other) && sources[other] == NONE) {
                    int near = match.nearnessOf(first.fileAt(path), second.fileAt(other));
                    if (near > bestNearness) {
                        best = other;
                        bestNearness = near;
                    }
                }
            }
            if (best >= 0 && best < PATHS) {
                sources[best] = path;
                count++;
            }
            return best;
        }
    }

    /** Blends three contents into one. */
    private static final class Blender {
        private final Match withOurs = new Match();
        private final Match withTheirs = new Match();
        private final Content basePart = new Content();
        private final Content ourPart = new Content();
        private final Content theirPart = new Content();

        /** Answers whether lines are in conflict. */
        boolean blendInto(Content into, Content base, Content ours, Content theirs) {
            withOurs.pairUp(base, ours);
            withTheirs.pairUp(base, theirs);
            into.becomeEmpty();
            boolean torn = false;
            int baseFrom = 0;
            int ourFrom = 0;
            int theirFrom = 0;
            for (int place = 0; place <= base.length(); place++) {
                // The end of all three closes the last part as a firm line closes the others.
                boolean atEnd = place == base.length();
                int ourEnd = atEnd ? ours.length() : withOurs.partnerInB(place);
                int theirEnd = atEnd ? theirs.length() : withTheirs.partnerInB(place);
                if (ourEnd != NONE && theirEnd != NONE) {
                    basePart.becomePart(base, baseFrom, place);
                    ourPart.becomePart(ours, ourFrom, ourEnd);
                    theirPart.becomePart(theirs, theirFrom, theirEnd);
                    torn = blendParts(into) || torn;
                    if (!atEnd) {
                        into.append(base.lineAt(place));
                    }
                    baseFrom = place + 1;
                    ourFrom = ourEnd + 1;
                    theirFrom = theirEnd + 1;
                }
            }
            return torn;
        }

        private boolean blendParts(Content into) {
            if (ourPart.sameAs(basePart)) {
                into.appendAll(theirPart);
                return false;
            }
            into.appendAll(ourPart);
            if (theirPart.sameAs(basePart) || theirPart.sameAs(ourPart)) {
                return false;
            }
            into.appendAll(theirPart);
            return true;
        }
    }

    /** Conflicts in the order in which they came to be. */
    private static final class Conflicts {
        private final int[] codes = new int[MOST_CONFLICTS];
        private final int[] paths = new int[MOST_CONFLICTS];
        private int count = 0;

        int howMany() {
            return count;
        }

        boolean holds(int conflict) {
            return conflict >= 0 && conflict < count && conflict < MOST_CONFLICTS;
        }

        int codeOf(int conflict) {
            return holds(conflict) ? codes[conflict] : NONE;
        }

        int pathOf(int conflict) {
            return holds(conflict) ? paths[conflict] : NONE;
        }

        void tell(int code, int path) {
            if (count < MOST_CONFLICTS) {
                codes[count] = code;
                paths[count] = path;
                count++;
            }
        }

        void drop(int conflict) {
            if (!holds(conflict)) {
                return;
            }
            for (int i = conflict; i < count - 1; i++) {
                codes[i] = codes[i + 1];
                paths[i] = paths[i + 1];
            }
            count--;
        }

        void clear() {
            count = 0;
        }

        void copyFrom(Conflicts other) {
            clear();
            for (int i = 0; i < other.howMany(); i++) {
                tell(other.codeOf(i), other.pathOf(i));
            }
        }
    }

    /** Merges three trees into one. */
    private static final class Merger {
        private final Tree result = new Tree();
        private final Conflicts told = new Conflicts();
        private final Renames toOurs = new Renames();
        private final Renames toTheirs = new Renames();
        private final Blender blender = new Blender();
        private final Content noLines = new Content();
        private final boolean[] newFromOurs = new boolean[PATHS];

        Tree result() {
            return result;
        }

        Conflicts told() {
            return told;
        }

        void mergeTrees(Tree base, Tree ours, Tree theirs) {
            result.clear();
            told.clear();
            toOurs.trace(base, ours);
            toTheirs.trace(base, theirs);
            for (int path = 0; path < PATHS; path++) {
                if (base.has(path)) {
                    mergeFile(base, ours, theirs, path);
                }
            }
            for (int path = 0; path < PATHS; path++) {
                newFromOurs[path] = isNew(base, ours, toOurs, path) && bring(ours.fileAt(path), path);
            }
            for (int path = 0; path < PATHS; path++) {
                if (isNew(base, theirs, toTheirs, path)) {
                    if (newFromOurs[path]) {
                        joinNew(ours.fileAt(path), theirs.fileAt(path), path);
                    } else {
                        bring(theirs.fileAt(path), path);
                    }
                }
            }
        }

        private static boolean isNew(Tree base, Tree side, Renames toSide, int path) {
            return side.has(path) && !base.has(path) && toSide.sourceOf(path) == NONE;
        }

        private void mergeFile(Tree base, Tree ours, Tree theirs, int path) {
            int inOurs = toOurs.fateOf(path);
            int inTheirs = toTheirs.fateOf(path);
            if (inOurs == NONE && inTheirs == NONE) {
                return;
            }
            if (inOurs == NONE) {
                mergeLeftOut(base, theirs, path, inTheirs);
                return;
            }
            if (inTheirs == NONE) {
                mergeLeftOut(base, ours, path, inOurs);
                return;
            }
            int to = inOurs == path ? inTheirs : inOurs;
            if (result.has(to)) {
                told.tell(TAKEN, to);
                return;
            }
            if (inTheirs != to && inTheirs != path) {
                told.tell(MOVED_APART, to);
            }
            Content into = result.fileAt(to);
            if (blender.blendInto(into, base.fileAt(path), ours.fileAt(inOurs), theirs.fileAt(inTheirs))) {
                told.tell(TORN, to);
            }
        }

        /** One side took the file out; the other one, kept, may have it elsewhere or otherwise. */
        private void mergeLeftOut(Tree base, Tree kept, int path, int inKept) {
            boolean untouched = inKept == path && kept.fileAt(path).sameAs(base.fileAt(path));
            if (!untouched && bring(kept.fileAt(inKept), inKept)) {
                told.tell(LEFT_OUT, inKept);
            }
        }

        private void joinNew(Content ours, Content theirs, int path) {
            if (!ours.sameAs(theirs)) {
                blender.blendInto(result.fileAt(path), noLines, ours, theirs);
                told.tell(BOTH_NEW, path);
            }
        }

        /** Answers whether it came; where something is already, it tells that instead. */
        private boolean bring(Content content, int path) {
            if (result.has(path)) {
                told.tell(TAKEN, path);
                return false;
            }
            result.fileAt(path).copyFrom(content);
            return true;
        }
    }

    /** The commits. Sets of them are bits of one int, as there are at most 30. */
    private static final class History {
        private final Tree[] trees = new Tree[MOST_COMMITS];
        private final Tree nothing = new Tree();
        private final int[] notes = new int[MOST_COMMITS];
        private final int[] firstParents = new int[MOST_COMMITS];
        private final int[] secondParents = new int[MOST_COMMITS];
        /** The first commit with the same tree, gone or not, so that equal trees bear one number. */
        private final int[] treeNumbers = new int[MOST_COMMITS];
        /** Likewise for each content: the first commit * PATHS + path that has it; NONE without a file. */
        private final int[] contentNumbers = new int[MOST_COMMITS * PATHS];
        /** By those numbers, 1 where a count has met the content, else 0. */
        private final int[] metContents = new int[MOST_COMMITS * PATHS];
        private int count = 0;
        private int kept = 0;

        History() {
            for (int i = 0; i < MOST_COMMITS; i++) {
                trees[i] = new Tree();
            }
        }

        static int setOf(int commit) {
            return commit >= 0 && commit < MOST_COMMITS ? 1 << commit : 0;
        }

        static boolean isIn(int commit, int set) {
            return (setOf(commit) & set) != 0;
        }

        boolean isFull() {
            return count >= MOST_COMMITS;
        }

        /** The commits that are not gone. */
        int kept() {
            return kept;
        }

        boolean holds(int commit) {
            return isIn(commit, kept);
        }

        void keepOnly(int set) {
            kept &= set;
        }

        /** Where there is no such commit, a tree without files, as a missing head or base has it. */
        Tree treeOf(int commit) {
            return commit >= 0 && commit < MOST_COMMITS ? trees[commit] : nothing;
        }

        int noteOf(int commit) {
            return commit >= 0 && commit < MOST_COMMITS ? notes[commit] : NONE;
        }

        int firstParent(int commit) {
            return commit >= 0 && commit < MOST_COMMITS ? firstParents[commit] : NONE;
        }

        int secondParent(int commit) {
            return commit >= 0 && commit < MOST_COMMITS ? secondParents[commit] : NONE;
        }

        int add(Tree tree, int note, int first, int second) {
            if (count >= MOST_COMMITS) {
                return NONE;
            }
            int number = count;
            trees[number].copyFrom(tree);
            notes[number] = note;
            firstParents[number] = first;
            secondParents[number] = second;
            treeNumbers[number] = numberOfTree(number);
            for (int path = 0; path < PATHS; path++) {
                contentNumbers[number * PATHS + path] = numberOfContent(number, path);
            }
            kept |= setOf(number);
            count++;
            return number;
        }

        /** Parents have smaller numbers, so one way down meets all ancestors. */
        int withAncestors(int set) {
            int all = set;
            for (int i = MOST_COMMITS - 1; i >= 0; i--) {
                if (isIn(i, all)) {
                    all |= setOf(firstParents[i]) | setOf(secondParents[i]);
                }
            }
            return all;
        }

        int ancestorsOf(int commit) {
            return withAncestors(setOf(commit));
        }

        int commonAncestor(int a, int b) {
            int common = ancestorsOf(a) & ancestorsOf(b);
            for (int i = MOST_COMMITS - 1; i >= 0; i--) {
                if (isIn(i, common)) {
                    return i;
                }
            }
            return NONE;
        }

        int countObjects(int set) {
            return Integer.bitCount(set) + countTrees(set) + countContents(set);
        }

        int countTrees(int set) {
            int different = 0;
            for (int i = 0; i < MOST_COMMITS; i++) {
                if (isIn(i, set)) {
                    different |= setOf(treeNumbers[i]);
                }
            }
            return Integer.bitCount(different);
        }

        int countContents(int set) {
            meetContents(set);
            int different = 0;
            for (int i = 0; i < metContents.length; i++) {
                different += metContents[i];
            }
            return different;
        }

        int sumLines(int set) {
            meetContents(set);
            int sum = 0;
            for (int i = 0; i < metContents.length; i++) {
                if (metContents[i] != 0) {
                    sum += treeOf(i / PATHS).fileAt(i % PATHS).length();
                }
            }
            return sum;
        }

        private void meetContents(int set) {
            Arrays.fill(metContents, 0);
            for (int i = 0; i < MOST_COMMITS; i++) {
                for (int path = 0; path < PATHS && isIn(i, set); path++) {
                    int number = contentNumbers[i * PATHS + path];
                    if (number >= 0 && number < metContents.length) {
                        metContents[number] = 1;
                    }
                }
            }
        }

        private int numberOfTree(int commit) {
            for (int i = 0; i < commit; i++) {
                if (treeOf(i).sameAs(treeOf(commit))) {
                    return i;
                }
            }
            return commit;
        }

        private int numberOfContent(int commit, int path) {
            Content file = treeOf(commit).fileAt(path);
            if (!file.exists()) {
                return NONE;
            }
            int own = commit * PATHS + path;
            for (int i = 0; i < own; i++) {
                if (file.sameAs(treeOf(i / PATHS).fileAt(i % PATHS))) {
                    return i;
                }
            }
            return own;
        }
    }
}
