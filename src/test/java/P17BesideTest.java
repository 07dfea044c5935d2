/** Promise 17: beside. */
public final class P17BesideTest {
    public static void main(String[] args) {
        LedgerMachine x = state();
        for (int n = 0; n < 10; n++) {
            isTheNthNode(x, n);
        }
        wrongInputs();
        Check.end();
    }

    /** A state where leaf 1008 (CELL 0 of account 31) has a node that is not 0 beside its way at each level. */
    private static LedgerMachine state() {
        LedgerMachine x = new LedgerMachine();
        Acts.code(x, Acts.join(Acts.store(0, 3), Acts.store(1, 4), Acts.store(2, 5), Acts.store(4, 6), Acts.store(8, 7)));
        x.endow(31, 8, 0);
        for (int account : new int[] {30, 29, 27, 23, 15}) {
            x.endow(account, account, -1);
        }
        x.order(15, 31, 0, 0, 1000, 0, 0);
        x.block(0, 15);
        return x;
    }

    private static void isTheNthNode(LedgerMachine x, int n) {
        long root = x.digest(1, 10, 0);
        for (int level = 0; level < 10; level++) {
            long node = x.digest(1, level, 1008 >> level ^ 1);
            Check.same("a node beside at level " + level, node != 0, true);
            x.beside(level, node);
        }
        Check.same("all told", x.proves(root, 1008, 3), true);
        x.beside(n, x.digest(1, n, 1008 >> n ^ 1) + 1);
        Check.same("another one told for " + n, x.proves(root, 1008, 3), false);
    }

    private static void wrongInputs() {
        LedgerMachine x = new LedgerMachine();
        for (int n : new int[] {-1, 10, Integer.MIN_VALUE, Integer.MAX_VALUE}) {
            Check.refuses("beside(" + n + ", 1)", IndexOutOfBoundsException.class, () -> x.beside(n, 1));
        }
        Check.same("all are 0 still", x.proves(0, 5, 0), true);
    }
}
