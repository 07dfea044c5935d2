/** DIGESTS, reckoned as Terms 1 tells them, and values that make MIX what a test wants. */
final class Digests {
    private static final long FACTOR = 0x9E3779B97F4A7C15L;

    private Digests() {
    }

    static long mix(long x, long y) {
        long z = (x ^ Long.rotateLeft(y, 23)) * FACTOR + 1;
        return z ^ (z >>> 29);
    }

    static long ofLeaf(int leaf, long value) {
        if (value == 0) {
            return 0;
        }
        long mixed = mix(leaf + 1, value);
        return mixed == 0 ? 1 : mixed;
    }

    static long ofPair(long left, long right) {
        if (left == 0 && right == 0) {
            return 0;
        }
        long mixed = mix(left, right);
        return mixed == 0 ? 1 : mixed;
    }

    static long node(long[] leaves, int level, int i) {
        if (level == 0) {
            return ofLeaf(i, leaves[i]);
        }
        return ofPair(node(leaves, level - 1, 2 * i), node(leaves, level - 1, 2 * i + 1));
    }

    /** The value of a LEAF for which MIX is this. */
    static long valueFor(int leaf, long mixed) {
        long z = mixed;
        for (int i = 0; i < 3; i++) {
            z = mixed ^ (z >>> 29);
        }
        return Long.rotateRight((z - 1) * inverse() ^ (leaf + 1), 23);
    }

    /** What stands left of this when MIX of both is 0. */
    static long leftForZero(long right) {
        return -inverse() ^ Long.rotateLeft(right, 23);
    }

    /** What stands right of this when MIX of both is 0. */
    static long rightForZero(long left) {
        return Long.rotateRight(-inverse() ^ left, 23);
    }

    private static long inverse() {
        long inverse = FACTOR;
        for (int i = 0; i < 6; i++) {
            inverse *= 2 - FACTOR * inverse;
        }
        return inverse;
    }
}
