/** Promise 7: block. OrdersTest tells how its orders are done. */
public final class P07BlockTest {
    public static void main(String[] args) {
        aBlockOnAParent();
        noneAreDraftedThen();
        withoutOrders();
        itsNumber();
        noSuchParent();
        noSuchMaker();
        thereAreForty();
        fortyOnOneParent();
        theOneNamedFirst();
        whatIsRefusedChangesNothing();
        Check.end();
    }

    /** "A BLOCK on a parent": each on the STATE of its own. */
    private static void aBlockOnAParent() {
        LedgerMachine x = new LedgerMachine();
        x.endow(0, 1000, -1);
        x.order(0, 1, 10, 0, 25, 0, 0);
        x.block(0, 9);
        x.order(0, 1, 20, 0, 25, 0, 0);
        x.block(0, 9);
        x.order(0, 1, 5, 0, 25, 0, 1);
        x.block(1, 9);
        long[] due = {0, 10, 20, 15};
        for (int block = 0; block < 4; block++) {
            Check.same("BALANCE of 1 in " + block, x.leaf(block, 32), due[block]);
            Check.same("BALANCE of 0 in " + block, x.leaf(block, 0), 1000 - due[block]);
        }
    }

    /** "with the ORDERS that are drafted (none are then)" */
    private static void noneAreDraftedThen() {
        LedgerMachine x = new LedgerMachine();
        x.order(0, 1, 0, 0, 25, 0, 0);
        x.order(0, 1, 0, 0, 25, 0, 1);
        x.block(0, 31);
        Check.same("its ORDERS", x.told(1, 2), 2);
        x.block(1, 31);
        Check.same("the next one has none", x.told(2, 2), 0);
        Check.same("order", x.order(0, 1, 0, 0, 25, 0, 2), 1);
    }

    private static void withoutOrders() {
        LedgerMachine x = new LedgerMachine();
        x.endow(0, 1000, -1);
        x.block(0, 31);
        for (int what = 2; what < 5; what++) {
            Check.same("told(1, " + what + ")", x.told(1, what), 0);
        }
        Check.same("the STATE below it", x.digest(1, 10, 0), x.digest(0, 10, 0));
    }

    /** "Answers its number." */
    private static void itsNumber() {
        LedgerMachine x = new LedgerMachine();
        Check.same("the first", x.block(0, 0), 1);
        Check.same("beside it", x.block(0, 0), 2);
        Check.same("on it", x.block(1, 0), 3);
        Check.same("parent", x.told(3, 0), 1);
        Check.same("HEIGHT", x.told(3, 1), 2);
    }

    /** "IndexOutOfBoundsException: there is no such parent": the last one that there is, the first that is not. */
    private static void noSuchParent() {
        LedgerMachine x = new LedgerMachine();
        for (int parent : Check.outside(0, 0)) {
            Check.refuses("parent " + parent, Check.INDEX, () -> x.block(parent, 0));
        }
        Check.same("on BLOCK 0", x.block(0, 0), 1);
        Check.refuses("parent 2", Check.INDEX, () -> x.block(2, 0));
        Check.same("on BLOCK 1", x.block(1, 0), 2);
    }

    /** "or MAKER" */
    private static void noSuchMaker() {
        LedgerMachine x = new LedgerMachine();
        x.endow(5, 1000, -1);
        for (int maker : Check.outside(0, 31)) {
            Check.refuses("maker " + maker, Check.INDEX, () -> x.block(0, maker));
        }
        x.order(5, 5, 0, 0, 25, 1, 0);
        Check.same("maker 0", x.block(0, 0), 1);
        Check.same("what is his", x.leaf(1, 0), 25);
        x.order(5, 5, 0, 0, 25, 1, 1);
        Check.same("maker 31", x.block(1, 31), 2);
        Check.same("what is his", x.leaf(2, 31 * 32), 25);
    }

    /** "IllegalStateException: there are 40.": BLOCK 0 counts. */
    private static void thereAreForty() {
        LedgerMachine x = new LedgerMachine();
        for (int block = 1; block < 40; block++) {
            Check.same("block", x.block(block - 1, 0), block);
            Check.same("HEIGHT", x.told(block, 1), block);
        }
        Check.refuses("a 41st", Check.STATE, () -> x.block(39, 0));
        Check.refuses("on BLOCK 0", Check.STATE, () -> x.block(0, 0));
        Check.refuses("BLOCK 40 is none", Check.INDEX, () -> x.told(40, 0));
        Check.same("BLOCK 39 is", x.told(39, 0), 38);
    }

    private static void fortyOnOneParent() {
        LedgerMachine x = new LedgerMachine();
        for (int block = 1; block < 40; block++) {
            Check.same("block", x.block(0, 31), block);
            Check.same("HEIGHT", x.told(block, 1), 1);
        }
        Check.refuses("a 41st", Check.STATE, () -> x.block(0, 31));
    }

    private static void theOneNamedFirst() {
        LedgerMachine x = new LedgerMachine();
        for (int block = 1; block < 40; block++) {
            x.block(0, 0);
        }
        Check.refuses("parent 40", Check.INDEX, () -> x.block(40, 0));
        Check.refuses("parent -1", Check.INDEX, () -> x.block(-1, 0));
        Check.refuses("maker 32", Check.INDEX, () -> x.block(0, 32));
        Check.refuses("maker -1", Check.INDEX, () -> x.block(39, -1));
    }

    private static void whatIsRefusedChangesNothing() {
        LedgerMachine x = new LedgerMachine();
        x.order(0, 1, 0, 0, 25, 0, 0);
        Check.refuses("parent 1", Check.INDEX, () -> x.block(1, 0));
        Check.refuses("maker 32", Check.INDEX, () -> x.block(0, 32));
        Check.refuses("no BLOCK was made", Check.INDEX, () -> x.told(1, 0));
        Check.same("the ORDER stands", x.order(0, 1, 0, 0, 25, 0, 1), 2);
        for (int block = 1; block < 40; block++) {
            x.block(0, 0);
        }
        x.order(0, 1, 0, 0, 25, 0, 0);
        Check.refuses("a 41st", Check.STATE, () -> x.block(0, 0));
        Check.same("its ORDER stands", x.order(0, 1, 0, 0, 25, 0, 0), 2);
    }
}
