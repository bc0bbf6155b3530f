/** Arguments that no call takes: just beside the bounds, and far away, where a wrap-around could bring them back. */
final class Edges {
    static final int[] NO_PATH = {-1, 12, 13, -12, 32, 256, 1 << 30, Integer.MIN_VALUE, Integer.MAX_VALUE};
    static final int[] NO_LINE = {-1, 100, 101, -99, 128, 256, 1 << 16, Integer.MIN_VALUE, Integer.MAX_VALUE};
    static final int[] NO_NOTE = {-1, 1000, 1001, -999, 1024, 1 << 16, Integer.MIN_VALUE, Integer.MAX_VALUE};
    static final int[] NO_PLACE = {-1, 10, 11, -10, 32, 1 << 30, Integer.MIN_VALUE, Integer.MAX_VALUE};
    static final int[] NEVER_A_COMMIT = {-2, 30, 31, 32, 33, -32, -31, 64, 1 << 30, Integer.MIN_VALUE,
        Integer.MIN_VALUE + 1, Integer.MAX_VALUE};
    static final int[] NEVER_A_BRANCH = {-1, 5, 6, -5, 32, 1 << 30, Integer.MIN_VALUE, Integer.MAX_VALUE};
    static final int[] NEVER_A_CONFLICT = {-1, 24, 25, 32, -32, 1 << 30, Integer.MIN_VALUE, Integer.MAX_VALUE};

    private Edges() {
    }

    /** What a method that takes 0 to last does not take. */
    static int[] notTo(int last) {
        return new int[] {-1, last + 1, last + 2, -last - 1, 32, 1 << 30, Integer.MIN_VALUE, Integer.MAX_VALUE};
    }
}
