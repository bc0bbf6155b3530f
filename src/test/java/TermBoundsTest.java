/** The bounds that terms 2 to 4 name: matches, nearness, renames, merges and blends. */
public final class TermBoundsTest {
    private static final String TEN = "[0 1 2 3 4 5 6 7 8 9]";
    private static final String OTHER_TEN = "[10 11 12 13 14 15 16 17 18 19]";

    private static final Check CHECK = new Check("TermBoundsTest");

    public static void main(String[] args) {
        matchAtEnds();
        matchNotLess();
        matchInOrder();
        matchLinesAlike();
        nearnessEdges();
        nearnessCut();
        renameEnough();
        renameNotEnough();
        renameWithoutLines();
        renameGreatest();
        renameSmallestOfSeveral();
        renameNotTaken();
        renameOnlyInOne();
        nowhere();
        nowhereSameContent();
        pathOfBoth();
        newInOne();
        newEverywhere();
        newInBoth();
        taken();
        partsWithoutLines();
        partsAlike();
        tenLines();
        elevenLines();
        linesBehindTheTenth();
        baseIsTheGreatest();
        objectsCountedOnce();
        CHECK.end();
    }

    /** That line of the first file of commit 1 which came from commit 0: its place there is told by the line itself. */
    private static void paired(String what, String a, String b, int... places) {
        Branchwork x = Stores.line("0" + a, "0" + b);
        for (int place = 0; place < x.size(1, 0); place++) {
            int asked = place;
            boolean due = false;
            for (int paired : places) {
                due = due || paired == place;
            }
            CHECK.due("2: " + what + ", place " + place, due ? 0 : 1, () -> x.origin(1, 0, asked));
        }
    }

    private static void near(String what, int want, String a, String b) {
        Branchwork x = Stores.line("0" + a + " 1" + b);
        CHECK.due("2: nearness, " + what, want, () -> x.nearness(0, 0, 0, 1));
        CHECK.due("2: nearness, " + what + ", the other way", want, () -> x.nearness(0, 1, 0, 0));
    }

    private static void went(String what, String a, String b, int... pathAndWant) {
        Branchwork x = Stores.line(a, b);
        for (int i = 0; i < pathAndWant.length; i += 2) {
            int path = pathAndWant[i];
            CHECK.due("2: " + what + ", path " + path, pathAndWant[i + 1], () -> x.went(0, 1, path));
        }
    }

    private static void merges(String what, String base, String ours, String theirs, String files, String conflicts) {
        Merges.due(CHECK, what, Stores.apart(base, ours, theirs), files, conflicts);
    }

    /** "one goes from i = 0 and j = 0, till one of both is at its end" */
    private static void matchAtEnds() {
        paired("a without lines", "[]", "[1 2]");
        paired("b without lines", "[1 2]", "[]");
        paired("one line each, the same", "[1]", "[1] 1[1]", 0);
        paired("one line each, not the same", "[1]", "[2]");
        paired("a is at its end first", "[1]", "[1 1 1]", 0);
        paired("b is at its end first", "[1 1 1]", "[1]", 0);
        paired("the last of ten", TEN, "[9]", 0);
        paired("the first of ten", TEN, "[0]", 0);
        paired("the tenth in b", "[19]", OTHER_TEN, 9);
        paired("ten each", TEN, TEN + " 1[1]", 0, 1, 2, 3, 4, 5, 6, 7, 8, 9);
        paired("none of ten", TEN, OTHER_TEN);
    }

    /** "if L(i + 1, j) is not less than L(i, j + 1), i goes on, else j" */
    private static void matchNotLess() {
        paired("as much in both, i goes on", "[1 2]", "[2 1]", 0);
        paired("as much in both, i goes on twice", "[1 2 3]", "[3 2 1]", 0);
        paired("less by one, j goes on", "[1 2]", "[3 1 2]", 1, 2);
        paired("more by one, i goes on", "[3 1 2]", "[1 2]", 0, 1);
        paired("nothing in common but the last", "[1 2 9]", "[3 4 9]", 2);
        paired("two blocks of the same length", "[1 2 3 4]", "[3 4 1 2]", 0, 1);
        paired("the longer block is the first of a", "[1 2 3 4 5]", "[4 5 1 2 3]", 2, 3, 4);
        paired("the longer block is the last of a", "[1 2 3 4 5]", "[3 4 5 1 2]", 0, 1, 2);
    }

    /** "in order (not always beside each other)" */
    private static void matchInOrder() {
        paired("apart in b", "[1 2 3]", "[1 7 2 8 3]", 0, 2, 4);
        paired("apart in a", "[1 7 2 8 3]", "[1 2 3]", 0, 1, 2);
        paired("the first and the last", TEN, "[0 20 21 22 23 24 25 26 27 9]", 0, 9);
    }

    /** Each LINE is in one PAIR at most, and the first of several alike takes the first. */
    private static void matchLinesAlike() {
        paired("one for two", "[1]", "[1 1]", 0);
        paired("two for three", "[1 1]", "[1 1 1]", 0, 1);
        paired("two blocks alike", "[1 2]", "[1 2 1 2]", 0, 1);
        near("two alike and one", 66, "[1 1]", "[1]");
        near("three alike and one", 50, "[1 1 1]", "[1]");
        near("ten alike and one", 18, "[1 1 1 1 1 1 1 1 1 1]", "[1]");
        near("two blocks alike and one", 66, "[1 2 1 2]", "[1 2]");
        Branchwork x = Stores.line("0[1]", "0[1 1]", "0[1]");
        CHECK.due("2: the second of two alike is new", 1, () -> x.origin(1, 0, 1));
        CHECK.due("2: the one of two that stays is the first", 0, () -> x.origin(2, 0, 0));
        merges("the second of two alike is cut in ours", "0[1 1]", "0[1]", "0[1 1 2]", "0[1 1 2]", "3@0");
        merges("the second of two alike is cut in theirs", "0[1 1]", "0[1 1 2]", "0[1]", "0[1 1 2]", "3@0");
        merges("one of two alike is cut in both", "0[1 1]", "0[1]", "0[1] 1[1]", "0[1] 1[1]", "");
    }

    /** "200 * (PAIRS) / (LINES of both together); 100, if both have none" */
    private static void nearnessEdges() {
        near("both without lines", 100, "[]", "[]");
        near("one without lines", 0, "[]", "[1]");
        near("ten and none", 0, TEN, "[]");
        near("one line, the same", 100, "[1]", "[1]");
        near("one line, another", 0, "[1]", "[2]");
        near("ten lines, the same", 100, TEN, TEN);
        near("ten lines, others", 0, TEN, OTHER_TEN);
        near("ten lines, one the same", 10, TEN, "[20 21 22 23 24 25 26 27 28 9]");
        near("ten lines, nine the same", 90, TEN, "[0 1 2 3 4 5 6 7 8 20]");
        near("ten lines, turned round", 10, TEN, "[9 8 7 6 5 4 3 2 1 0]");
    }

    /** "/ is cut towards 0" */
    private static void nearnessCut() {
        near("200 / 3", 66, "[1]", "[1 2]");
        near("200 / 11", 18, TEN, "[9]");
        near("1000 / 17", 58, "[1 2 3 4 5 6 7 8]", "[1 2 3 4 5 20 21 22 23]");
        near("1800 / 19", 94, TEN, "[0 1 2 3 4 5 6 7 8]");
        near("200 / 7", 28, "[1 2 3]", "[1 4 5 6]");
    }

    /** "if that is 60 or more, it is renamed to that" */
    private static void renameEnough() {
        went("60 of 10 lines", "0[1 2 3 4 5]", "11[1 2 3 6 7]", 0, 11);
        went("60 of 20 lines", "11" + TEN, "0[0 1 2 3 4 5 20 21 22 23]", 11, 0);
        went("60 of 5 and 5 lines, at their ends", "0[4 5 1 2 3]", "5[1 2 3 4 6]", 0, 5);
        went("61", "0[1 2 3 4 5]", "11[1 2 3 4 6 7 8 9]", 0, 11);
    }

    /** There is no NEARNESS of 59, as LINES are at most ten each. */
    private static void renameNotEnough() {
        went("58", "0[1 2 3 4 5 6 7 8]", "11[1 2 3 4 5 20 21 22 23]", 0, -1);
        went("57", "0[1 2 3]", "11[1 2 4 5]", 0, -1);
        went("50", "0[1 2]", "11[1 3]", 0, -1);
        went("0", "0[1]", "11[2]", 0, -1);
        Branchwork x = Stores.line("0[1 2 3 4 5 6 7 8]", "11[1 2 3 4 5 20 21 22 23]");
        CHECK.due("2: 58 is not renamed", 0, () -> x.changes(0, 1, 2));
        CHECK.due("2: 58 is new", 1, () -> x.changes(0, 1, 0));
        CHECK.due("2: 58 is nowhere", 1, () -> x.changes(0, 1, 1));
    }

    private static void renameWithoutLines() {
        went("both without lines", "0[] 1[1]", "11[] 1[1]", 0, 11);
        went("only the first without lines", "0[] 1[1]", "11[2] 1[1]", 0, -1);
        went("only the second without lines", "0[2] 1[1]", "11[] 1[1]", 0, -1);
        went("two without lines", "0[] 1[]", "5[] 6[]", 0, 5, 1, 6);
    }

    /** "that whose CONTENT has the greatest NEARNESS to its own" */
    private static void renameGreatest() {
        went("the last is the greatest", "0[1 2 3 4 5]", "5[1 2 3 6 7] 6[1 2 3 4 7] 7[1 2 3 4 5]", 0, 7);
        went("the first is the greatest", "0[1 2 3 4 5]", "5[1 2 3 4 5] 6[1 2 3 4 7] 7[1 2 3 6 7]", 0, 5);
        went("greater by one", "0[1 2 3 4 5]", "5[1 2 3 6 7] 6[1 2 3 4 6 7 8 9]", 0, 6);
        went("the greatest is still less than 60", "0[1 2]", "5[3] 6[1 3]", 0, -1);
    }

    /** "of several the smallest" */
    private static void renameSmallestOfSeveral() {
        went("two alike", "0[1 2]", "11[1 2] 10[1 2]", 0, 10);
        went("two as near", "0[1 2 3 4]", "3[1 2 3 9] 9[2 3 4 9]", 0, 3);
        went("both at 60", "5[1 2 3 4 5]", "0[1 2 3 6 7] 11[3 4 5 6 7]", 5, 0);
    }

    /** "of the PATHS that only the second has, and that are not taken so far"; "from the smallest on" */
    private static void renameNotTaken() {
        went("one for two", "0[1 2] 11[1 2]", "5[1 2]", 0, 5, 11, -1);
        went("the smaller one takes it, though less near", "0[1 2 3 4 9] 1[1 2 3 4 5]", "5[1 2 3 4 5]", 0, 5, 1, -1);
        went("the second best is enough", "0[1 2 3] 1[1 2 3]", "5[1 2 3 4] 6[1 2 3]", 0, 6, 1, 5);
        went("the second best is not enough", "0[1 2 3] 1[1 2 3]", "5[1 8 9] 6[1 2 3]", 0, 6, 1, -1);
        went("six for six", "0[1] 1[1] 2[1] 3[1] 4[1] 5[1]", "6[1] 7[1] 8[1] 9[1] 10[1] 11[1]",
                0, 6, 1, 7, 2, 8, 3, 9, 4, 10, 5, 11);
        went("eleven for one", "0[1] 1[1] 2[1] 3[1] 4[1] 5[1] 6[1] 7[1] 8[1] 9[1] 10[1]", "11[1]",
                0, 11, 1, -1, 10, -1);
        went("one for eleven", "11[1]", "0[1] 1[1] 2[1] 3[1] 4[1] 5[1] 6[1] 7[1] 8[1] 9[1] 10[1]", 11, 0);
    }

    /** "for each PATH that only the first has"; "of the PATHS that only the second has" */
    private static void renameOnlyInOne() {
        went("it is still there", "0[1 2]", "0[9] 1[1 2]", 0, 0);
        went("the other one was there before", "0[1 2] 1[9]", "1[1 2]", 0, -1);
        went("two files changed places", "0[1 2] 1[3 4]", "0[3 4] 1[1 2]", 0, 0, 1, 1);
        went("nothing in the second", "0[1] 11[2]", "", 0, -1, 11, -1);
    }

    /** "Nowhere in both: nothing." */
    private static void nowhere() {
        merges("nowhere in both", "0[1] 11[1]", "11[1]", "11[1 2]", "11[1 2]", "");
        merges("no files in both", "0[1] 1[1]", "5[5]", "", "5[5]", "");
        merges("no files in theirs, ours is the base", "0[1] 1[1]", "0[1] 1[1] 2[2]", "", "2[2]", "");
        merges("no files in theirs, all otherwise in ours", "0[1] 11[1]", "0[2] 11[]", "", "0[2] 11[]", "1@0 1@11");
        merges("no files in ours, all otherwise in theirs", "0[1] 11[1]", "", "0[2] 11[]", "0[2] 11[]", "1@0 1@11");
    }

    /** "Nowhere in one of both: nothing, if the other one has it at p with the same CONTENT as BASE" */
    private static void nowhereSameContent() {
        merges("without lines, as it was", "0[] 1[1]", "1[1]", "0[] 1[2]", "1[2]", "");
        merges("without lines, one came", "0[] 1[1]", "1[1]", "0[5] 1[1]", "0[5] 1[1]", "1@0");
        merges("without lines any more", "0[5] 1[1]", "0[] 1[1]", "1[1]", "0[] 1[1]", "1@0");
        merges("the tenth line is another", "0" + TEN + " 1[1]", "1[1]", "0[0 1 2 3 4 5 6 7 8 19] 1[1]",
                "0[0 1 2 3 4 5 6 7 8 19] 1[1]", "1@0");
        merges("the same content, but at another path", "0[1] 1[1]", "11[1] 1[1]", "1[1]", "1[1] 11[1]", "1@11");
        merges("the same content at another path in theirs", "0[1] 1[1]", "1[1]", "11[1] 1[1]", "1[1] 11[1]", "1@11");
    }

    /** "that of both, if it is one; that of the other one, if one has it at p; otherwise that of OURS" */
    private static void pathOfBoth() {
        merges("at p in both", "0[1] 11[1]", "0[1] 11[1] 1[7]", "0[1] 11[1 2]", "0[1] 1[7] 11[1 2]", "");
        merges("at another one in both", "0[1]", "11[1]", "11[1] 5[5]", "5[5] 11[1]", "");
        merges("at p in ours", "0[1]", "0[1] 5[5]", "11[1]", "5[5] 11[1]", "");
        merges("at p in theirs", "11[1]", "0[1]", "11[1] 5[5]", "0[1] 5[5]", "");
        merges("at two others", "5[1]", "0[1]", "11[1]", "0[1]", "2@0");
        merges("at two others, the other way", "5[1]", "11[1]", "0[1]", "11[1]", "2@11");
    }

    /** "for each PATH that OURS has, that is not in BASE, and to which nothing was renamed in it"; so of THEIRS */
    private static void newInOne() {
        merges("new at the edges", "5[1]", "5[1] 0[7] 1[]", "5[1] 11[8] 10[]", "0[7] 1[] 5[1] 10[] 11[8]", "");
        merges("new in theirs at the first path", "5[1]", "5[1] 11[7]", "5[1] 0[8]", "0[8] 5[1] 11[7]", "");
        merges("new in ours at the last path", "5[1]", "5[1] 11[]", "5[1 2]", "5[1 2] 11[]", "");
        merges("new in ours, and renamed away there", "0[1 2] 1[9]", "5[1 2] 1[9] 6[3]", "0[1 2] 1[9] 7[4]",
                "1[9] 5[1 2] 6[3] 7[4]", "");
    }

    /** Each PATH beside that of BASE is new in one. */
    private static void newEverywhere() {
        StringBuilder low = new StringBuilder("0[50 51]");
        StringBuilder high = new StringBuilder("0[50 51]");
        for (int path = 1; path < 12; path++) {
            (path < 6 ? low : high).append(" ").append(path).append("[").append(path).append("]");
        }
        String all = low + high.substring("0[50 51]".length());
        merges("new everywhere", "0[50 51]", low.toString(), high.toString(), all, "");
    }

    /** "nothing, if both are the same; otherwise ... CONFLICT 4 (whether LINES are in conflict or not)" */
    private static void newInBoth() {
        merges("new in both at the first path", "5[1]", "5[1] 0[7]", "5[1] 0[8]", "0[7 8] 5[1]", "4@0");
        merges("new in both at the first path, alike", "5[1]", "5[1] 0[7]", "5[2] 0[7]", "0[7] 5[2]", "");
        merges("new in both, both without lines", "0[1]", "0[1] 11[]", "0[2] 11[]", "0[2] 11[]", "");
        merges("new in both, ten lines alike", "0[1]", "0[1] 11" + TEN, "0[2] 11" + TEN, "0[2] 11" + TEN, "");
        merges("new in both, theirs without lines", "0[1]", "0[1] 11[3]", "0[1] 11[]", "0[1] 11[3]", "4@11");
        merges("new in both, ours without lines", "0[1]", "0[1] 11[]", "0[1] 11[3]", "0[1] 11[3]", "4@11");
        merges("new in both, the tenth line another", "0[1]", "0[1] 11" + TEN, "0[1] 11[0 1 2 3 4 5 6 7 8 19]",
                "0[1] 11" + TEN, "4@11");
        merges("new in both, twenty lines", "0[1]", "0[1] 11" + OTHER_TEN, "0[1] 11" + TEN,
                "0[1] 11" + OTHER_TEN, "4@11");
        merges("new in both, five lines each", "0[1]", "0[1] 11[1 2 3 4 5]", "0[1] 11[1 2 3 4 6]",
                "0[1] 11[1 2 3 4 5 1 2 3 4 6]", "4@11");
    }

    /** "it does not come: for that there is CONFLICT 5 of the PATH, and no other one" */
    private static void taken() {
        merges("its own 1, and the 5", "0[1 2] 1[3 4]", "11[1 2] 1[3 4]", "11[3 4 5]", "11[1 2]", "1@11 5@11");
        merges("a 1 that comes too late", "0[1 2] 1[3 4]", "11[1 2]", "0[1 2] 11[3 4]", "11[1 2]", "5@11");
        merges("a 3 that comes too late", "0[1 2] 1[3 4]", "11[1 2] 1[3 4 8]", "0[1 2] 11[3 4 9]", "11[1 2]", "5@11");
        merges("a 2 that comes too late", "0[1 2] 1[3 4]", "0[1 2] 11[3 4]", "11[1 2] 10[3 4]", "11[1 2]", "5@11");
        merges("a 2 and a 3 that come too late", "0[1 2] 1[3 4]", "0[1 2] 11[3 4 8]", "11[1 2] 10[3 4 9]",
                "11[1 2]", "5@11");
        merges("a 2 whose other path is taken", "0[1 2] 1[3 4]", "11[1 2] 10[3 4]", "0[1 2] 11[3 4]",
                "10[3 4] 11[1 2]", "2@10");
        merges("new in theirs, without lines, too late", "0[1 2]", "11[1 2]", "0[1 2] 11[]", "11[1 2]", "5@11");
        merges("new in ours too late", "0[1 2]", "0[1 2] 11[]", "11[1 2]", "11[1 2]", "5@11");
        merges("its own 2 and 3, and the 5", "0[1 2]", "11[1 2 8]", "10[1 2 9] 11[7]",
                "11[1 2 8 9]", "2@11 3@11 5@11");
    }

    /** "each of the three has a PART (maybe without LINES; all of it, if there is no FIRM one)" */
    private static void partsWithoutLines() {
        merges("all three without lines", "0[]", "0[] 1[1]", "0[] 2[2]", "0[] 1[1] 2[2]", "");
        merges("base without lines, ours with", "0[]", "0[1]", "0[] 2[2]", "0[1] 2[2]", "");
        merges("base without lines, theirs with", "0[]", "0[] 1[1]", "0[2]", "0[2] 1[1]", "");
        merges("base without lines, both with", "0[]", "0[1]", "0[2]", "0[1 2]", "3@0");
        merges("ours without lines, theirs as it was", "0[1 2]", "0[]", "0[1 2] 2[2]", "0[] 2[2]", "");
        merges("theirs without lines, ours as it was", "0[1 2]", "0[1 2] 1[1]", "0[]", "0[] 1[1]", "");
        merges("ours without lines, theirs otherwise", "0[1 2]", "0[]", "0[1 3]", "0[1 3]", "3@0");
        merges("theirs without lines, ours otherwise", "0[1 2]", "0[1 3]", "0[]", "0[1 3]", "3@0");
        merges("both without lines", "0[1 2]", "0[] 1[1]", "0[]", "0[] 1[1]", "");
        merges("ahead of the first firm one", "0[5]", "0[1 5]", "0[2 5]", "0[1 2 5]", "3@0");
        merges("behind the last firm one", "0[5]", "0[5 1]", "0[5 2]", "0[5 1 2]", "3@0");
        merges("between two firm ones", "0[5 6]", "0[5 1 6]", "0[5 2 6]", "0[5 1 2 6]", "3@0");
        merges("all three at once", "0[5 6]", "0[1 5 3 6]", "0[5 4 6 2]", "0[1 5 3 4 6 2]", "3@0");
        merges("firm ones beside each other", "0[5 6 7]", "0[5 6 7 1]", "0[2 5 6 7]", "0[2 5 6 7 1]", "");
    }

    /** "that of THEIRS, if that of OURS is as that of BASE; otherwise that of OURS, if that of THEIRS is as ..." */
    private static void partsAlike() {
        merges("ours as base", "0[5 1 6]", "0[5 1 6] 1[1]", "0[5 2 3 6]", "0[5 2 3 6] 1[1]", "");
        merges("theirs as base", "0[5 1 6]", "0[5 2 3 6]", "0[5 1 6] 1[1]", "0[5 2 3 6] 1[1]", "");
        merges("theirs as ours", "0[5 1 6]", "0[5 2 3 6] 1[1]", "0[5 2 3 6]", "0[5 2 3 6] 1[1]", "");
        merges("cut in both", "0[5 1 6]", "0[5 6] 1[1]", "0[5 6]", "0[5 6] 1[1]", "");
        merges("cut in ours, as base in theirs", "0[5 1 6]", "0[5 6]", "0[5 1 6] 1[1]", "0[5 6] 1[1]", "");
        merges("theirs begins as ours", "0[5 1 6]", "0[5 2 6]", "0[5 2 3 6]", "0[5 2 2 3 6]", "3@0");
        merges("ours begins as theirs", "0[5 1 6]", "0[5 2 3 6]", "0[5 2 6]", "0[5 2 3 2 6]", "3@0");
        merges("ours begins as base", "0[5 1 6]", "0[5 1 2 6]", "0[5 3 6]", "0[5 1 2 3 6]", "3@0");
    }

    /** Ten LINES are not too many. */
    private static void tenLines() {
        merges("ten lines, all firm", "0" + TEN, "0" + TEN + " 1[1]", "0" + TEN + " 2[2]",
                "0" + TEN + " 1[1] 2[2]", "");
        merges("nine and one are ten", "0[0]", "0[1 2 3 4 5 0]", "0[0 6 7 8 9]", "0[1 2 3 4 5 0 6 7 8 9]", "");
        merges("five and five are ten", "0[]", "0[1 2 3 4 5]", "0[6 7 8 9 10]", "0[1 2 3 4 5 6 7 8 9 10]", "3@0");
        merges("a firm one is the tenth", "0[0]", "0[1 2 3 4 5 0]", "0[6 7 8 9 0]", "0[1 2 3 4 5 6 7 8 9 0]", "3@0");
    }

    /** "LINES behind the tenth are left out" */
    private static void elevenLines() {
        merges("the eleventh of theirs", "0[0]", "0[1 2 3 4 5 0]", "0[0 6 7 8 9 10]", "0[1 2 3 4 5 0 6 7 8 9]", "");
        merges("the eleventh of both", "0[]", "0[1 2 3 4 5]", "0[6 7 8 9 10 11]", "0[1 2 3 4 5 6 7 8 9 10]", "3@0");
        merges("a firm one is the eleventh", "0[0]", "0[1 2 3 4 5 0]", "0[6 7 8 9 10 0]",
                "0[1 2 3 4 5 6 7 8 9 10]", "3@0");
        merges("a firm one is the twelfth", "0[0 50]", "0[1 2 3 4 5 6 0 50]", "0[7 8 9 10 11 0 50]",
                "0[1 2 3 4 5 6 7 8 9 10]", "3@0");
    }

    /** "(they can be in conflict all the same)" */
    private static void linesBehindTheTenth() {
        merges("twenty lines", "0[50]", "0" + TEN, "0" + OTHER_TEN, "0" + TEN, "3@0");
        merges("theirs wholly behind the tenth", "0[50]", "0" + TEN, "0[51]", "0" + TEN, "3@0");
        merges("both behind the tenth, behind a firm one", "0[0 50]", "0[1 2 3 4 5 0 20 50 60]", "0[6 7 8 9 0 50 61]",
                "0[1 2 3 4 5 6 7 8 9 0]", "3@0");
        merges("only those behind the tenth are in conflict", "0[0 1]", "0[2 3 4 5 6 7 8 0 1 20]", "0[0 9 1 21]",
                "0[2 3 4 5 6 7 8 0 9 1]", "3@0");
        merges("those behind the tenth are not in conflict", "0[0 1]", "0[2 3 4 5 6 7 8 0 1]", "0[0 9 1 21]",
                "0[2 3 4 5 6 7 8 0 9 1]", "");
    }

    /** "the common ANCESTOR with the greatest number" */
    private static void baseIsTheGreatest() {
        Branchwork x = Stores.apart("0[1]", "0[1] 1[1]", "0[1] 2[2]");
        x.merge(0);
        x.commit(0);
        x.change(0);
        CHECK.due("3: of a merge and its second parent", 2, () -> x.base(3, 2));
        x.put(0, 0, 9);
        x.commit(0);
        CHECK.due("3: behind both", 2, () -> x.base(3, 4));
        CHECK.due("3: the other way", 2, () -> x.base(4, 3));
        CHECK.due("3: so nothing is in conflict", 0, () -> x.merge(1));
        CHECK.compare("3: merged", "0[9 1] 1[1] 2[2]", Files.showAll(x, -1));
    }

    /** "their TREES, each counted once, and the CONTENTS of FILES in these, each counted once" */
    private static void objectsCountedOnce() {
        Branchwork x = Stores.line("0[1] 11[1]", "0[1]", "0[1] 11[1]", "11[1]", "0[1] 11[1 1]", "0[]");
        CHECK.due("4: commits", 6, () -> x.many(0));
        CHECK.due("4: trees", 5, () -> x.many(4));
        CHECK.due("4: contents", 3, () -> x.many(5));
        Branchwork twice = Stores.line("0[1]", "0[2]", "0[1]", "0[2]", "0[1]");
        CHECK.due("4: two trees, time and again", 2, () -> twice.many(4));
        CHECK.due("4: two contents, time and again", 2, () -> twice.many(5));
        Branchwork one = Stores.line("5[1]", "6[1]");
        CHECK.due("4: no content where there is no file", 1, () -> one.many(5));
        CHECK.dueDouble("4: so the mean is its own", 1.0, one::meanLines);
        Branchwork gone = Stores.line("0[1]", "0[2]");
        gone.reset(0);
        Stores.commit(gone, 0, Files.tree("0[3]"));
        Stores.commit(gone, 0, Files.tree("0[1]"));
        Stores.commit(gone, 0, Files.tree("0[2]"));
        CHECK.due("4: only a commit goes, as another one has its tree", 1, gone::collect);
        CHECK.due("4: trees", 3, () -> gone.many(4));
        CHECK.due("4: contents", 3, () -> gone.many(5));
        Branchwork y = Stores.line("0[1 2]", "0[2 1]", "0[1]", "0[0 1 2]", "0[12]");
        CHECK.due("4: the same lines in another order, or less, or more", 5, () -> y.many(5));
    }
}
