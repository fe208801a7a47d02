/** Numbers that look thrown but are the same in every run. */
final class Dice {
    private static final long STEP = 0x9E3779B97F4A7C15L;

    private long state;

    // The seed is mixed: from states that are a few steps apart, neighbouring seeds would throw the same numbers.
    Dice(long seed) {
        state = mixed(seed + STEP);
    }

    private static long mixed(long bits) {
        long z = (bits ^ (bits >>> 30)) * 0xBF58476D1CE4E5B9L;
        z = (z ^ (z >>> 27)) * 0x94D049BB133111EBL;
        return z ^ (z >>> 31);
    }

    long bits() {
        state += STEP;
        return mixed(state);
    }

    /** A number from 0 to n - 1. */
    int below(int n) {
        return (int) Math.floorMod(bits(), (long) n);
    }

    int between(int low, int high) {
        return low + below(high - low + 1);
    }

    boolean once(int in) {
        return below(in) == 0;
    }
}
