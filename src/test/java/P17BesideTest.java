/** Promise 17: beside. */
public final class P17BesideTest {
    public static void main(String[] args) {
        theNthNodeBesideTheWay();
        theLatestCounts();
        anyDigest();
        nIsZeroToNine();
        Check.end();
    }

    /** A STATE where LEAF 1008 (CELL 0 of account 31) has a node that is not 0 beside its way at each LEVEL. */
    private static LedgerMachine state() {
        LedgerMachine x = new LedgerMachine();
        Acts.code(x, Acts.join(Acts.store(0, 3), Acts.store(1, 4), Acts.store(2, 5), Acts.store(4, 6), Acts.store(8, 7)));
        x.endow(31, 8, 0);
        for (int account : new int[] {30, 29, 27, 23, 15}) {
            x.endow(account, account, -1);
        }
        x.order(15, 31, 0, 0, 1000, 0, 0);
        x.block(0, 15);
        return x;
    }

    /** "(n from 0 at LEVEL 0 up)": with any one of them told otherwise the proof fails. */
    private static void theNthNodeBesideTheWay() {
        LedgerMachine x = state();
        long root = x.digest(1, 10, 0);
        long[] nodes = new long[10];
        for (int n = 0; n < 10; n++) {
            nodes[n] = x.digest(1, n, 1008 >> n ^ 1);
            Check.same("the node beside at " + n + " is not 0", nodes[n] != 0, true);
            Check.same("before " + n + " is told", x.proves(root, 1008, 3), false);
            x.beside(n, nodes[n]);
        }
        Check.same("all told", x.proves(root, 1008, 3), true);
        for (int n = 0; n < 10; n++) {
            x.beside(n, nodes[n] + 1);
            Check.same("another one at " + n, x.proves(root, 1008, 3), false);
            x.beside(n, 0);
            Check.same("0 at " + n, x.proves(root, 1008, 3), false);
            x.beside(n, nodes[n]);
            Check.same("told again", x.proves(root, 1008, 3), true);
        }
    }

    private static void theLatestCounts() {
        LedgerMachine x = new LedgerMachine();
        x.beside(4, 99);
        Check.same("not of nothing", x.proves(0, 5, 0), false);
        x.beside(4, 0);
        Check.same("of nothing again", x.proves(0, 5, 0), true);
    }

    private static void anyDigest() {
        for (long digest : new long[] {1, -1, Long.MIN_VALUE, Long.MAX_VALUE}) {
            LedgerMachine x = new LedgerMachine();
            x.beside(9, digest);
            Check.same("beside a left half", x.proves(Digests.mix(0, digest), 0, 0), true);
            Check.same("beside a right half", x.proves(Digests.mix(digest, 0), 1023, 0), true);
        }
    }

    /** "IndexOutOfBoundsException: n is not 0 to 9." */
    private static void nIsZeroToNine() {
        LedgerMachine x = new LedgerMachine();
        for (int n : Check.outside(0, 9)) {
            Check.refuses("beside(" + n + ", 1)", Check.INDEX, () -> x.beside(n, 1));
        }
        Check.same("all are 0 still", x.proves(0, 5, 0), true);
        x.beside(0, 7);
        x.beside(9, 8);
        long way = Digests.ofPair(7, 0);
        for (int level = 1; level < 9; level++) {
            way = Digests.ofPair(way, 0);
        }
        Check.same("both ends", x.proves(Digests.ofPair(way, 8), 1, 0), true);
    }
}
