/** Numbers that look like chance and are the same in every run. */
final class Dice {
    private long state;

    Dice(long seed) {
        state = seed * 0x9E3779B97F4A7C15L + 0x1234567;
    }

    private int bits() {
        state = state * 6364136223846793005L + 1442695040888963407L;
        return (int) (state >>> 33);
    }

    /** One of 0 to bound - 1. */
    int below(int bound) {
        return (int) ((bits() & 0x7fffffffL) * bound >> 31);
    }

    /** One of from to to. */
    int among(int from, int to) {
        return from + below(to - from + 1);
    }

    boolean oneIn(int many) {
        return below(many) == 0;
    }

    int of(int... values) {
        return values[below(values.length)];
    }
}
