/** Numbers that look like chance and are the same in every run. */
final class Dice {
    private long state;

    Dice(long seed) {
        state = seed * 0x9E3779B97F4A7C15L + 1;
    }

    /** 0 to n - 1. */
    int below(int n) {
        state = state * 6364136223846793005L + 1442695040888963407L;
        return (int) ((state >>> 33) % n);
    }

    int between(int from, int to) {
        return from + below(to - from + 1);
    }

    boolean oneIn(int n) {
        return below(n) == 0;
    }

    String oneOf(String... all) {
        return all[below(all.length)];
    }
}
