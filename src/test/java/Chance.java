/** Numbers as by chance, but always the same ones, so that a fault that was met once is met again. */
final class Chance {
    private long seed;

    Chance(long seed) {
        this.seed = seed;
    }

    int upTo(int bound) {
        seed = seed * 6364136223846793005L + 1442695040888963407L;
        return (int) ((seed >>> 33) % bound);
    }

    boolean oneIn(int bound) {
        return upTo(bound) == 0;
    }
}
