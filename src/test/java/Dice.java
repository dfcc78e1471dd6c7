/** The same numbers for the same seed, on every machine. */
final class Dice {
    private long state;

    Dice(long seed) {
        state = seed * 0x9E3779B97F4A7C15L + 0x1234567L;
    }

    /** 0 .. n - 1. */
    int upTo(int n) {
        state = state * 6364136223846793005L + 1442695040888963407L;
        return (int) Math.floorMod((state >>> 33) ^ (state >>> 47), (long) n);
    }

    int between(int least, int most) {
        return least + upTo(most - least + 1);
    }

    boolean once(int in) {
        return upTo(in) == 0;
    }

    /** Mostly in a range or just beyond it, now and then far off. */
    int around(int least, int most) {
        if (once(40)) {
            int[] far = {Integer.MIN_VALUE, Integer.MAX_VALUE, -10001, 1000, -3, 61, 128, Integer.MIN_VALUE + 1};
            return far[upTo(far.length)];
        }
        return once(12) ? between(least - 1, most + 1) : between(least, most);
    }
}
