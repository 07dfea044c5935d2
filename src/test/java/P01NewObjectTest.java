/** Promise 1: what a new object is. */
public final class P01NewObjectTest {
    public static void main(String[] args) {
        LedgerMachine x = new LedgerMachine();
        int[] told = {-1, 0, 0, 0, 0, 0, 1};
        for (int what = 0; what < told.length; what++) {
            Check.same("told(0, " + what + ")", x.told(0, what), told[what]);
        }
        Check.refuses("told(1, 0)", IndexOutOfBoundsException.class, () -> x.told(1, 0));
        for (int account = 0; account < 32; account++) {
            for (int part : new int[] {0, 1, 2, 16, 31}) {
                int leaf = 32 * account + part;
                Check.same("leaf(0, " + leaf + ")", x.leaf(0, leaf), 0);
            }
        }
        Check.same("the root", x.digest(0, 10, 0), 0);
        Check.refuses("endow with code 0", IndexOutOfBoundsException.class, () -> x.endow(0, 0, 0));
        Check.same("certain(0)", x.certain(0), 0);
        Check.same("certain(1)", x.certain(1), -1);
        Check.same("draft(1, 0)", x.draft(1, 0), 1);
        Check.same("order", x.order(0, 1, 0, 0, 0, 0, 0), 1);
        weightsAreOne();
        Check.same("NONE", LedgerMachine.NONE, -1);
        Check.end();
    }

    private static void weightsAreOne() {
        LedgerMachine x = new LedgerMachine();
        x.block(0, 0);
        for (int voter = 0; voter < 7; voter++) {
            x.vote(voter, 1);
            Check.same("WEIGHTS after voter " + voter, x.told(1, 5), voter + 1);
        }
    }
}
