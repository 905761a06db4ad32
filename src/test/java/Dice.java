/** Numbers that look thrown but are the same in each run, so that a failure can be gone back to. */
final class Dice {
    private long x;

    Dice(long seed) {
        x = seed * 0x9E3779B97F4A7C15L + 0x1234567L;
    }

    /** A number from least to most. */
    int from(int least, int most) {
        x ^= x << 13;
        x ^= x >>> 7;
        x ^= x << 17;
        return least + (int) Math.floorMod(x * 0x2545F4914F6CDD1DL >>> 16, (long) most - least + 1);
    }

    boolean chance(int ofHundred) {
        return from(0, 99) < ofHundred;
    }

    String one(String... words) {
        return words[from(0, words.length - 1)];
    }
}
