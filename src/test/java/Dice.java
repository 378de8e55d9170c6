/** Numbers that look thrown, and are the same in every run. */
final class Dice {
    private long seed;

    Dice(long seed) {
        this.seed = seed * 2654435761L + 12345;
    }

    int below(int bound) {
        seed = seed * 6364136223846793005L + 1442695040888963407L;
        return (int) ((seed >>> 33) % bound);
    }

    boolean oneIn(int bound) {
        return below(bound) == 0;
    }

    String pick(String... words) {
        return words[below(words.length)];
    }
}
