/** Promise 12: digest. */
public final class P12DigestTest {
    public static void main(String[] args) {
        LedgerMachine x = new LedgerMachine();
        Check.same("the root of nothing", x.digest(0, 10, 0), 0);
        x.endow(1, 50, -1);
        Check.same("a leaf, as the tests tell it", x.digest(0, 0, 32), -9037326958337309043L);
        x.endow(31, 3, -1);
        Check.same("an empty leaf", x.digest(0, 0, 33), 0);
        long left = wayUp(x, 32, 50, 9);
        long right = wayUp(x, 31 * 32, 3, 9);
        Check.same("the root", x.digest(0, 10, 0), joined(left, right));
        x.block(0, 0);
        Check.same("a block without orders", x.digest(1, 10, 0), joined(left, right));
        for (int level = 0; level <= 10; level++) {
            int nodes = 1024 >> level;
            int at = level;
            x.digest(0, level, nodes - 1);
            Check.refuses("node " + nodes + " of " + level, IndexOutOfBoundsException.class, () -> x.digest(0, at, nodes));
            Check.refuses("node -1 of " + level, IndexOutOfBoundsException.class, () -> x.digest(0, at, -1));
        }
        int[][] wrong = {{-1, 0, 0}, {2, 0, 0}, {0, -1, 0}, {0, 11, 0}, {0, 32, 0}, {0, Integer.MIN_VALUE, 0},
            {0, Integer.MAX_VALUE, 0}, {0, 0, Integer.MAX_VALUE}};
        for (int[] w : wrong) {
            Check.refuses("digest(" + w[0] + ", " + w[1] + ", " + w[2] + ")", IndexOutOfBoundsException.class,
                    () -> x.digest(w[0], w[1], w[2]));
        }
        whereMixIsZero();
        Check.end();
    }

    private static long mix(long a, long b) {
        long z = (a ^ Long.rotateLeft(b, 23)) * 0x9E3779B97F4A7C15L + 1;
        return z ^ (z >>> 29);
    }

    private static long joined(long l, long r) {
        return l == 0 && r == 0 ? 0 : mix(l, r);
    }

    /** Checks the nodes from a leaf up that has nothing beside it up to a level, and answers the last. */
    private static long wayUp(LedgerMachine x, int leaf, long value, int level) {
        long node = mix(leaf + 1, value);
        int i = leaf;
        for (int at = 0; at <= level; at++) {
            Check.same("digest(0, " + at + ", " + i + ")", x.digest(0, at, i), node);
            if (at < level) {
                node = i % 2 == 0 ? joined(node, 0) : joined(0, node);
                i /= 2;
            }
        }
        return node;
    }

    /** MIX is 0 where its product is -1: a value that makes it so for a CELL of account 1 has the digest 1. */
    private static void whereMixIsZero() {
        int leaf = 32 + 16;
        long factor = 0x9E3779B97F4A7C15L;
        long inverse = factor;
        for (int i = 0; i < 6; i++) {
            inverse *= 2 - factor * inverse;
        }
        long value = Long.rotateRight(-inverse ^ (leaf + 1), 23);
        Check.same("MIX of it", mix(leaf + 1, value), 0);
        Bench b = new Bench(Acts.row(Acts.PUSH, 0, Acts.ARGUMENT, Acts.STORE));
        b.run(0, value, 200);
        Check.same("the CELL", b.cell(1, 0), value);
        Check.same("its digest", b.x.digest(1, 0, leaf), 1);
        pairWhoseMixIsZero(b.x, -inverse);
    }

    /** A proof with a beside that makes the MIX of the first pair 0, which then counts 1. */
    private static void pairWhoseMixIsZero(LedgerMachine x, long product) {
        long node = mix(2, 5);
        x.beside(0, product ^ Long.rotateLeft(node, 23));
        Check.same("MIX of the pair", mix(product ^ Long.rotateLeft(node, 23), node), 0);
        long root = 1;
        for (int level = 1; level < 10; level++) {
            root = joined(root, 0);
        }
        Check.same("proves", x.proves(root, 1, 5), true);
    }
}
