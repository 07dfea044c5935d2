/** Promise 18: proves. */
public final class P18ProvesTest {
    public static void main(String[] args) {
        ofNothing();
        ofAState();
        wrongInputs();
        Check.end();
    }

    private static void ofNothing() {
        LedgerMachine x = new LedgerMachine();
        Check.same("0 of leaf 0", x.proves(0, 0, 0), true);
        Check.same("0 of leaf 1023", x.proves(0, 1023, 0), true);
        Check.same("another root", x.proves(1, 0, 0), false);
        Check.same("another value", x.proves(0, 0, 1), false);
        x.endow(7, 12, -1);
        long root = x.digest(0, 10, 0);
        Check.same("one leaf alone needs no node beside it", x.proves(root, 224, 12), true);
        Check.same("with another value", x.proves(root, 224, 13), false);
        Check.same("at another leaf", x.proves(root, 225, 12), false);
        Check.same("not empty", x.proves(root, 224, 0), false);
    }

    private static void ofAState() {
        int[] octets = Acts.join(Acts.store(0, 1), Acts.store(1, 2), Acts.store(7, 3), Acts.store(15, -4));
        Bench b = new Bench(octets, Acts.row(Acts.STOP));
        b.x.endow(30, 44, 1);
        b.x.endow(31, 45, 0);
        b.order(1, 1, 0, 3000).order(31, 2, 0, 3000).block();
        for (int leaf : new int[] {0, 1, 2, 3, 32, 48, 49, 55, 63, 64, 500, 960, 992, 994, 1008, 1023}) {
            proofOf(b.x, leaf);
        }
    }

    private static void proofOf(LedgerMachine x, int leaf) {
        for (int level = 0; level < 10; level++) {
            x.beside(level, x.digest(1, level, leaf >> level ^ 1));
        }
        long root = x.digest(1, 10, 0);
        long value = x.leaf(1, leaf);
        Check.same("leaf " + leaf, x.proves(root, leaf, value), true);
        Check.same("leaf " + leaf + " with another value", x.proves(root, leaf, value + 1), false);
        Check.same("leaf " + leaf + " for the one beside it", x.proves(root, leaf ^ 1, value) && value != 0, false);
        Check.same("leaf " + leaf + " with another root", x.proves(root + 1, leaf, value), false);
    }

    private static void wrongInputs() {
        LedgerMachine x = new LedgerMachine();
        for (int leaf : new int[] {-1, 1024, Integer.MIN_VALUE, Integer.MAX_VALUE}) {
            Check.refuses("proves(0, " + leaf + ", 0)", IndexOutOfBoundsException.class, () -> x.proves(0, leaf, 0));
        }
    }
}
