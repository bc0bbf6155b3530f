/** Promises 1 to 6: a new object and the working tree. */
public final class WorkingTreeTest {
    private static final Class<IndexOutOfBoundsException> INDEX = IndexOutOfBoundsException.class;
    private static final Class<IllegalArgumentException> ARGUMENT = IllegalArgumentException.class;
    private static final Class<IllegalStateException> STATE = IllegalStateException.class;

    private static final Check CHECK = new Check("WorkingTreeTest");

    public static void main(String[] args) {
        promise1();
        promise2();
        promise2Wrong();
        promise3();
        promise4();
        promise5();
        promise6();
        CHECK.end();
    }

    private static void promise1() {
        Branchwork x = new Branchwork();
        CHECK.due("1: many(0)", 0, () -> x.many(0));
        CHECK.due("1: many(1)", 1, () -> x.many(1));
        for (int what = 2; what <= 5; what++) {
            int asked = what;
            CHECK.due("1: many(" + what + ")", 0, () -> x.many(asked));
        }
        CHECK.due("1: now(0)", 0, () -> x.now(0));
        CHECK.due("1: now(1)", -1, () -> x.now(1));
        CHECK.due("1: now(2)", -1, () -> x.now(2));
        CHECK.due("1: at(0)", -1, () -> x.at(0));
        CHECK.compare("1: files", "", Files.showAll(x, -1));
        x.put(0, 0, 1);
        CHECK.due("1: a second object has nothing of the first", 0, () -> new Branchwork().many(2));
    }

    private static void promise2() {
        Branchwork x = new Branchwork();
        CHECK.due("2: a file comes to be", 1, () -> x.put(11, 0, 0));
        CHECK.due("2: behind the last line", 2, () -> x.put(11, 1, 99));
        CHECK.due("2: ahead of the first line", 3, () -> x.put(11, 0, 5));
        CHECK.due("2: between", 4, () -> x.put(11, 1, 6));
        CHECK.compare("2: lines", "[5 6 0 99]", Files.show(x, -1, 11));
        CHECK.due("2: files", 1, () -> x.many(2));
        CHECK.due("2: another file", 1, () -> x.put(0, 0, 7));
        CHECK.compare("2: files", "0[7] 11[5 6 0 99]", Files.showAll(x, -1));
        x.commit(0);
        x.put(0, 0, 8);
        CHECK.compare("2: a commit keeps its tree", "[7]", Files.show(x, 0, 0));
    }

    private static void promise2Wrong() {
        Branchwork x = new Branchwork();
        CHECK.refused("2: path -1", INDEX, x, () -> x.put(-1, 0, 0));
        CHECK.refused("2: path 12", INDEX, x, () -> x.put(12, 0, 0));
        CHECK.refused("2: place 1 of no file", INDEX, x, () -> x.put(0, 1, 0));
        CHECK.refused("2: place -1", INDEX, x, () -> x.put(0, -1, 0));
        CHECK.refused("2: line -1", ARGUMENT, x, () -> x.put(0, 0, -1));
        CHECK.refused("2: line 100", ARGUMENT, x, () -> x.put(0, 0, 100));
        CHECK.refused("2: path ahead of line", INDEX, x, () -> x.put(12, 0, 100));
        CHECK.refused("2: place ahead of line", INDEX, x, () -> x.put(0, 1, 100));
        CHECK.due("2: no file came to be", 0, () -> x.many(2));
        for (int i = 0; i < 10; i++) {
            int place = i;
            CHECK.due("2: line " + i, i + 1, () -> x.put(3, place, place));
        }
        CHECK.refused("2: it has 10", STATE, x, () -> x.put(3, 0, 0));
        CHECK.refused("2: it has 10, place 10", STATE, x, () -> x.put(3, 10, 0));
        CHECK.refused("2: place ahead of 10 lines", INDEX, x, () -> x.put(3, 11, 0));
        CHECK.refused("2: line ahead of 10 lines", ARGUMENT, x, () -> x.put(3, 0, 100));
        CHECK.refused("2: the greatest place", INDEX, x, () -> x.put(3, Integer.MAX_VALUE, 0));
        CHECK.refused("2: the smallest path", INDEX, x, () -> x.put(Integer.MIN_VALUE, 0, 0));
        CHECK.compare("2: nothing changed", "3[0 1 2 3 4 5 6 7 8 9]", Files.showAll(x, -1));
    }

    private static void promise3() {
        Branchwork x = new Branchwork();
        CHECK.refused("3: no file", INDEX, x, () -> x.cut(4, 0));
        Files.write(x, 4, 1, 2, 3);
        CHECK.refused("3: place 3 of 3", INDEX, x, () -> x.cut(4, 3));
        CHECK.refused("3: place -1", INDEX, x, () -> x.cut(4, -1));
        CHECK.refused("3: path 12", INDEX, x, () -> x.cut(12, 0));
        CHECK.refused("3: path -1", INDEX, x, () -> x.cut(-1, 0));
        CHECK.due("3: in the middle", 2, () -> x.cut(4, 1));
        CHECK.compare("3: lines", "[1 3]", Files.show(x, -1, 4));
        CHECK.due("3: the last one", 1, () -> x.cut(4, 1));
        CHECK.compare("3: lines", "[1]", Files.show(x, -1, 4));
        CHECK.due("3: the only one", 0, () -> x.cut(4, 0));
        CHECK.compare("3: it stays without lines", "4[]", Files.showAll(x, -1));
        CHECK.refused("3: none left", INDEX, x, () -> x.cut(4, 0));
        Files.write(x, 5, 0, 1, 2, 3, 4, 5, 6, 7, 8, 9);
        CHECK.due("3: of ten", 9, () -> x.cut(5, 0));
        CHECK.compare("3: lines", "[1 2 3 4 5 6 7 8 9]", Files.show(x, -1, 5));
    }

    private static void promise4() {
        Branchwork x = new Branchwork();
        CHECK.refused("4: no file", INDEX, x, () -> x.rename(0, 1));
        Files.write(x, 0, 1, 2);
        CHECK.due("4: to 11", 2, () -> x.rename(0, 11));
        CHECK.compare("4: files", "11[1 2]", Files.showAll(x, -1));
        Files.write(x, 3, 9);
        CHECK.refused("4: to a file", STATE, x, () -> x.rename(3, 11));
        CHECK.refused("4: to itself", STATE, x, () -> x.rename(3, 3));
        CHECK.refused("4: to 12", INDEX, x, () -> x.rename(3, 12));
        CHECK.refused("4: to -1", INDEX, x, () -> x.rename(3, -1));
        CHECK.refused("4: no file, to a file", INDEX, x, () -> x.rename(4, 3));
        CHECK.refused("4: path 12", INDEX, x, () -> x.rename(12, 4));
        CHECK.refused("4: path -1", INDEX, x, () -> x.rename(-1, 4));
        CHECK.compare("4: nothing changed", "3[9] 11[1 2]", Files.showAll(x, -1));
        x.cut(3, 0);
        CHECK.due("4: without lines", 0, () -> x.rename(3, 0));
        CHECK.compare("4: files", "0[] 11[1 2]", Files.showAll(x, -1));
    }

    private static void promise5() {
        Branchwork x = new Branchwork();
        CHECK.refused("5: no file", INDEX, x, () -> x.remove(0));
        Files.write(x, 0, 1);
        Files.write(x, 11, 2);
        CHECK.refused("5: path 12", INDEX, x, () -> x.remove(12));
        CHECK.refused("5: path -1", INDEX, x, () -> x.remove(-1));
        CHECK.due("5: one of two", 1, () -> x.remove(0));
        CHECK.compare("5: files", "11[2]", Files.showAll(x, -1));
        CHECK.due("5: the last one", 0, () -> x.remove(11));
        CHECK.refused("5: again", INDEX, x, () -> x.remove(11));
        CHECK.due("5: put begins anew", 1, () -> x.put(11, 0, 3));
    }

    private static void promise6() {
        Branchwork x = new Branchwork();
        CHECK.due("6: nothing in both", 0, () -> x.status(0));
        Files.write(x, 0, 1);
        CHECK.due("6: without a head, only here", 1, () -> x.status(0));
        Files.write(x, 1, 2);
        Files.write(x, 2, 3);
        Files.write(x, 3);
        x.commit(0);
        CHECK.due("6: as the head", 0, () -> x.status(0));
        x.put(0, 0, 5);
        CHECK.due("6: another content", 2, () -> x.status(0));
        x.remove(1);
        CHECK.due("6: only in the head", 3, () -> x.status(1));
        x.put(11, 0, 5);
        CHECK.due("6: only here", 1, () -> x.status(11));
        x.cut(2, 0);
        CHECK.due("6: without lines is another content", 2, () -> x.status(2));
        x.remove(3);
        CHECK.due("6: without lines, only in the head", 3, () -> x.status(3));
        x.cut(0, 0);
        CHECK.due("6: as the head again", 0, () -> x.status(0));
        CHECK.refused("6: path 12", INDEX, x, () -> x.status(12));
        CHECK.refused("6: path -1", INDEX, x, () -> x.status(-1));
    }
}
