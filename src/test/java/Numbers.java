/** A row of numbers that looks like chance and is the same for the same start. */
final class Numbers {
    private long last;

    Numbers(long start) {
        last = start * 0x9E3779B97F4A7C15L + 1;
    }

    int below(int bound) {
        last = last * 6364136223846793005L + 1442695040888963407L;
        return (int) ((last >>> 33) % bound);
    }
}
