/** Promise 1: "All ACCOUNTS EMPTY, no CODES, BLOCK 0 alone, all WEIGHTS 1, THE DRAFT empty, no ORDERS." */
public final class P01NewObjectTest {
    public static void main(String[] args) {
        allAccountsAreEmpty();
        thereAreNoCodes();
        blockZeroIsAlone();
        allWeightsAreOne();
        theDraftIsEmpty();
        thereAreNoOrders();
        nothingWasSeenOrTold();
        eachObjectHasItsOwn();
        Check.end();
    }

    /** An object has 512 calls, so that each of four tells a fourth of the LEAVES. */
    private static void allAccountsAreEmpty() {
        for (int fourth = 0; fourth < 4; fourth++) {
            LedgerMachine x = new LedgerMachine();
            for (int leaf = 256 * fourth; leaf < 256 * fourth + 256; leaf++) {
                Check.same("leaf(0, " + leaf + ")", x.leaf(0, leaf), 0);
            }
            Check.same("the ROOT", x.digest(0, 10, 0), 0);
        }
    }

    private static void thereAreNoCodes() {
        LedgerMachine x = new LedgerMachine();
        Check.refuses("endow with CODE 0", Check.INDEX, () -> x.endow(0, 0, 0));
        Check.same("the first CODE", Acts.code(x, Acts.STOP), 0);
    }

    private static void blockZeroIsAlone() {
        LedgerMachine x = new LedgerMachine();
        int[] told = {-1, 0, 0, 0, 0, 0, 1};
        for (int what = 0; what < told.length; what++) {
            Check.same("told(0, " + what + ")", x.told(0, what), told[what]);
        }
        Check.refuses("told(1, 0)", Check.INDEX, () -> x.told(1, 0));
        Check.same("certain(0)", x.certain(0), 0);
        Check.same("certain(1)", x.certain(1), -1);
        Check.same("the first BLOCK", x.block(0, 0), 1);
    }

    private static void allWeightsAreOne() {
        LedgerMachine x = new LedgerMachine();
        x.block(0, 0);
        for (int voter = 0; voter < 7; voter++) {
            x.vote(voter, 1);
            Check.same("WEIGHTS after voter " + voter, x.told(1, 5), voter + 1);
        }
    }

    private static void theDraftIsEmpty() {
        Check.same("draft(1, 0)", new LedgerMachine().draft(1, 0), 1);
        Check.same("code()", new LedgerMachine().code(), -2);
    }

    private static void thereAreNoOrders() {
        Check.same("order", new LedgerMachine().order(0, 1, 0, 0, 0, 0, 0), 1);
        LedgerMachine x = new LedgerMachine();
        x.block(0, 0);
        Check.same("ORDERS of the first BLOCK", x.told(1, 2), 0);
    }

    private static void nothingWasSeenOrTold() {
        LedgerMachine x = new LedgerMachine();
        for (int what = 0; what < 3; what++) {
            Check.same("seen(" + what + ")", x.seen(what), 0);
        }
        Check.same("all nodes beside are 0", x.proves(0, 0, 0), true);
    }

    private static void eachObjectHasItsOwn() {
        LedgerMachine used = new LedgerMachine();
        Acts.code(used, Acts.STOP);
        used.draft(3, 0);
        used.endow(0, 7, 0);
        used.weight(0, 9);
        used.order(0, 1, 0, 0, 25, 0, 0);
        used.view(0, 0, 0, 0, 5);
        used.beside(0, 5);
        used.block(0, 0);
        used.vote(0, 1);
        used.order(0, 1, 0, 0, 25, 0, 0);
        theDraftIsEmpty();
        thereAreNoOrders();
        thereAreNoCodes();
        nothingWasSeenOrTold();
        blockZeroIsAlone();
        allWeightsAreOne();
    }
}
