/** Promise 18: proves. */
public final class P18ProvesTest {
    public static void main(String[] args) {
        ofWhatIsIn();
        ofWhatIsNotIn();
        allBesideAreZeroAtFirst();
        valuesAtTheirEnds();
        whereMixIsZero();
        onWhichSide();
        noSuchLeaf();
        nothingChanges();
        Check.end();
    }

    /** An object has 512 calls, so that each LEAF has its own. */
    private static LedgerMachine state() {
        int[] octets = Acts.join(Acts.store(0, 1), Acts.store(1, 2), Acts.store(7, 3), Acts.store(15, -4));
        Bench b = new Bench(octets, Acts.row(Acts.STOP));
        b.x.endow(30, 44, 1);
        b.x.endow(31, 45, 0);
        b.order(1, 1, 0, 3000).order(31, 2, 0, 3000).block();
        return b.x;
    }

    private static LedgerMachine withProofOf(int leaf) {
        LedgerMachine x = state();
        for (int level = 0; level < 10; level++) {
            x.beside(level, x.digest(1, level, leaf >> level ^ 1));
        }
        return x;
    }

    /** "Whether a ROOT is that of a LEAF with this value" */
    private static void ofWhatIsIn() {
        for (int leaf : new int[] {0, 1, 32, 34, 48, 49, 55, 63, 64, 960, 992, 994, 1008, 1023}) {
            LedgerMachine x = withProofOf(leaf);
            long root = x.digest(1, 10, 0);
            long value = x.leaf(1, leaf);
            Check.same("LEAF " + leaf + " is not 0", value != 0, true);
            Check.same("LEAF " + leaf, x.proves(root, leaf, value), true);
            Check.same("LEAF " + leaf + " as if empty", x.proves(root, leaf, 0), false);
            Check.same("LEAF " + leaf + " and 1 more", x.proves(root, leaf, value + 1), false);
            Check.same("LEAF " + leaf + " and 1 less", x.proves(root, leaf, value - 1), false);
            Check.same("the LEAF beside", x.proves(root, leaf ^ 1, value), false);
            Check.same("another ROOT", x.proves(root + 1, leaf, value), false);
            Check.same("the ROOT below", x.proves(x.digest(0, 10, 0), leaf, value), false);
            Check.same("no ROOT", x.proves(0, leaf, value), false);
        }
    }

    private static void ofWhatIsNotIn() {
        for (int leaf : new int[] {2, 3, 33, 35, 47, 50, 500, 512, 995, 1007, 1022}) {
            LedgerMachine x = withProofOf(leaf);
            long root = x.digest(1, 10, 0);
            Check.same("LEAF " + leaf + " is 0", x.proves(root, leaf, 0), true);
            Check.same("LEAF " + leaf + " is not 1", x.proves(root, leaf, 1), false);
            Check.same("LEAF " + leaf + " is not -1", x.proves(root, leaf, -1), false);
        }
    }

    /** "with the nodes beside its way as they were told (0 at first)" */
    private static void allBesideAreZeroAtFirst() {
        LedgerMachine x = new LedgerMachine();
        Check.same("0 of LEAF 0", x.proves(0, 0, 0), true);
        Check.same("0 of LEAF 1023", x.proves(0, 1023, 0), true);
        Check.same("another ROOT", x.proves(1, 0, 0), false);
        Check.same("another value", x.proves(0, 0, 1), false);
        x.endow(7, 12, -1);
        long root = x.digest(0, 10, 0);
        Check.same("a LEAF alone needs no node beside it", x.proves(root, 224, 12), true);
        Check.same("with another value", x.proves(root, 224, 13), false);
        Check.same("at another LEAF", x.proves(root, 225, 12), false);
        Check.same("not empty", x.proves(root, 224, 0), false);
    }

    private static long rootOfOne(int leaf, long value) {
        long[] leaves = new long[1024];
        leaves[leaf] = value;
        return Digests.node(leaves, 10, 0);
    }

    private static void valuesAtTheirEnds() {
        LedgerMachine x = new LedgerMachine();
        for (int leaf : new int[] {0, 1, 511, 512, 1022, 1023}) {
            for (long value : new long[] {0, 1, -1, Long.MIN_VALUE, Long.MAX_VALUE}) {
                Check.same("LEAF " + leaf + " = " + value, x.proves(rootOfOne(leaf, value), leaf, value), true);
            }
        }
    }

    /** ".. or 1 where that is 0": of a LEAF, and of two nodes at each LEVEL, with either one told beside. */
    private static void whereMixIsZero() {
        LedgerMachine x = new LedgerMachine();
        long value = Digests.valueFor(5, 0);
        Check.same("MIX of the LEAF", Digests.mix(6, value), 0);
        Check.same("its proof", x.proves(rootOfOne(5, value), 5, value), true);
        for (int level = 0; level < 10; level++) {
            pairOfZero(level, 0);
            pairOfZero(level, 1023);
        }
    }

    private static void pairOfZero(int level, int leaf) {
        boolean isRight = leaf != 0;
        long node = Digests.ofLeaf(leaf, 77);
        for (int below = 0; below < level; below++) {
            node = isRight ? Digests.ofPair(0, node) : Digests.ofPair(node, 0);
        }
        LedgerMachine x = new LedgerMachine();
        x.beside(level, isRight ? Digests.leftForZero(node) : Digests.rightForZero(node));
        long root = 1;
        for (int above = level + 1; above < 10; above++) {
            root = isRight ? Digests.ofPair(0, root) : Digests.ofPair(root, 0);
        }
        Check.same("LEAF " + leaf + ", LEVEL " + level, x.proves(root, leaf, 77), true);
    }

    /** Each bit of a LEAF's number tells on which side its way goes. */
    private static void onWhichSide() {
        LedgerMachine x = new LedgerMachine();
        for (int level = 0; level < 10; level++) {
            x.beside(level, 1000 + level);
        }
        for (int leaf : new int[] {0, 1, 2, 4, 8, 16, 32, 64, 128, 256, 512, 341, 682, 1023}) {
            long node = Digests.ofLeaf(leaf, 5);
            for (int level = 0; level < 10; level++) {
                boolean isLeft = leaf / (1 << level) % 2 == 0;
                node = isLeft ? Digests.ofPair(node, 1000 + level) : Digests.ofPair(1000 + level, node);
            }
            Check.same("LEAF " + leaf, x.proves(node, leaf, 5), true);
            Check.same("another LEAF", x.proves(node, leaf ^ 512, 5), false);
        }
    }

    /** "IndexOutOfBoundsException: there is no such LEAF." */
    private static void noSuchLeaf() {
        LedgerMachine x = new LedgerMachine();
        for (int leaf : Check.outside(0, 1023)) {
            Check.refuses("proves(0, " + leaf + ", 0)", Check.INDEX, () -> x.proves(0, leaf, 0));
        }
    }

    private static void nothingChanges() {
        LedgerMachine x = withProofOf(48);
        long root = x.digest(1, 10, 0);
        for (int again = 0; again < 3; again++) {
            x.proves(root, 1023, 5);
            Check.refuses("proves(0, 1024, 0)", Check.INDEX, () -> x.proves(0, 1024, 0));
            Check.same("the nodes beside are as they were told", x.proves(root, 48, 1), true);
        }
        Check.same("the STATE", x.digest(1, 10, 0), root);
    }
}
