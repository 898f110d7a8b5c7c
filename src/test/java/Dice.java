/** A fixed sequence of numbers: the same start gives the same numbers in every run of a test. */
final class Dice {
    private long seed;

    Dice(long start) {
        seed = start * 7919L;
    }

    int below(int bound) {
        seed = seed * 6364136223846793005L + 1442695040888963407L;
        return (int) ((seed >>> 33) % bound);
    }

    boolean oneIn(int times) {
        return below(times) == 0;
    }

    int oneOf(int... choices) {
        return choices[below(choices.length)];
    }

    int anyInt() {
        return below(1 << 16) << 16 | below(1 << 16);
    }
}
