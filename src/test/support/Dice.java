/** Numbers drawn from a seed, the same ones each time. */
final class Dice {
    private long state;

    Dice(long seed) {
        state = seed * 0x9E3779B97F4A7C15L + 12345;
    }

    int below(int n) {
        state = state * 6364136223846793005L + 1442695040888963407L;
        return (int) ((state >>> 33) % n);
    }

    /** Once in so many times. */
    boolean once(int n) {
        return below(n) == 0;
    }
}
