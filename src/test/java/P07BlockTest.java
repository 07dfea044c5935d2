/** Promise 7: block. OrdersTest tells how its orders are done. */
public final class P07BlockTest {
    public static void main(String[] args) {
        blocksAreATree();
        ordersAreTaken();
        atMostForty();
        Check.end();
    }

    private static void blocksAreATree() {
        LedgerMachine x = new LedgerMachine();
        x.endow(0, 1000, -1);
        x.order(0, 1, 10, 0, 25, 0, 0);
        Check.same("the first", x.block(0, 9), 1);
        x.order(0, 1, 20, 0, 25, 0, 0);
        Check.same("beside it", x.block(0, 9), 2);
        x.order(0, 1, 5, 0, 25, 0, 1);
        Check.same("on the first", x.block(1, 9), 3);
        long[] due = {0, 10, 20, 15};
        for (int block = 0; block < 4; block++) {
            Check.same("BALANCE of 1 in " + block, x.leaf(block, 32), due[block]);
            Check.same("BALANCE of 0 in " + block, x.leaf(block, 0), 1000 - due[block]);
        }
    }

    private static void ordersAreTaken() {
        LedgerMachine x = new LedgerMachine();
        x.endow(0, 1000, -1);
        x.order(0, 1, 10, 0, 25, 0, 0);
        Class<IndexOutOfBoundsException> index = IndexOutOfBoundsException.class;
        Check.refuses("parent -1", index, () -> x.block(-1, 0));
        Check.refuses("parent 1", index, () -> x.block(1, 0));
        Check.refuses("maker -1", index, () -> x.block(0, -1));
        Check.refuses("maker 32", index, () -> x.block(0, 32));
        Check.refuses("no block was made", index, () -> x.told(1, 0));
        Check.same("the orders still stand", x.order(0, 1, 10, 0, 25, 0, 1), 2);
        Check.same("block", x.block(0, 31), 1);
        Check.same("its orders", x.told(1, 2), 2);
        Check.same("a block without orders", x.block(1, 31), 2);
        Check.same("has none", x.told(2, 2), 0);
        Check.same("and the state below it", x.digest(2, 10, 0), x.digest(1, 10, 0));
    }

    private static void atMostForty() {
        LedgerMachine x = new LedgerMachine();
        for (int block = 1; block < 40; block++) {
            Check.same("block", x.block(block - 1, 0), block);
            Check.same("HEIGHT", x.told(block, 1), block);
        }
        x.order(0, 1, 0, 0, 25, 0, 0);
        Check.refuses("a 41st", IllegalStateException.class, () -> x.block(0, 0));
        Check.refuses("parent comes first", IndexOutOfBoundsException.class, () -> x.block(40, 0));
        Check.refuses("so does the maker", IndexOutOfBoundsException.class, () -> x.block(0, 32));
        Check.same("the order still stands", x.order(0, 1, 0, 0, 25, 0, 0), 2);
    }
}
