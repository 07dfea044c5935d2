/** Numbers drawn by a fixed rule from a seed: the same ones in every run. */
final class Draw {
    private long state;

    Draw(long seed) {
        state = seed * 0xD1342543DE82EF95L;
    }

    long number() {
        state += 0x9E3779B97F4A7C15L;
        long z = state;
        z = (z ^ (z >>> 30)) * 0xBF58476D1CE4E5B9L;
        z = (z ^ (z >>> 27)) * 0x94D049BB133111EBL;
        return z ^ (z >>> 31);
    }

    int below(int bound) {
        return (int) Long.remainderUnsigned(number(), bound);
    }

    boolean oneIn(int n) {
        return below(n) == 0;
    }

    int oneOf(int... numbers) {
        return numbers[below(numbers.length)];
    }
}
