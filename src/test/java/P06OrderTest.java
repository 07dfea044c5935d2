/** Promise 6: order. */
public final class P06OrderTest {
    public static void main(String[] args) {
        LedgerMachine x = new LedgerMachine();
        x.endow(0, 1000, -1);
        Check.same("the first", x.order(0, 31, 0, 0, 0, 0, 0), 1);
        Check.same("all at their most", x.order(31, 0, 1L << 50, Long.MIN_VALUE, 30000, 1000000, Integer.MAX_VALUE), 2);
        Check.same("a nonce below 0", x.order(0, 0, 0, -1, 25, 0, -1), 3);
        wrongInputs(x);
        for (int many = 4; many <= 10; many++) {
            Check.same("order " + many, x.order(0, 1, 1, 0, 25, 0, many - 4), many);
        }
        Check.refuses("an eleventh", IllegalStateException.class, () -> x.order(0, 1, 1, 0, 25, 0, 7));
        Check.refuses("account comes first", IndexOutOfBoundsException.class, () -> x.order(0, 32, -1, 0, 25, 0, 7));
        Check.refuses("value comes next", IllegalArgumentException.class, () -> x.order(0, 1, -1, 0, 25, 0, 7));
        x.block(0, 2);
        Check.same("ORDERS of the block", x.told(1, 2), 10);
        Check.same("BALANCE of 1", x.leaf(1, 32), 7);
        Check.same("orders are drafted anew", x.order(0, 1, 1, 0, 25, 0, 7), 1);
        Check.end();
    }

    private static void wrongInputs(LedgerMachine x) {
        Class<IndexOutOfBoundsException> index = IndexOutOfBoundsException.class;
        Class<IllegalArgumentException> argument = IllegalArgumentException.class;
        Check.refuses("from -1", index, () -> x.order(-1, 0, 0, 0, 0, 0, 0));
        Check.refuses("from 32", index, () -> x.order(32, 0, 0, 0, 0, 0, 0));
        Check.refuses("to -1", index, () -> x.order(0, -1, 0, 0, 0, 0, 0));
        Check.refuses("to 32", index, () -> x.order(0, 32, 0, 0, 0, 0, 0));
        Check.refuses("to and gas", index, () -> x.order(0, 32, 0, 0, -1, 0, 0));
        Check.refuses("value -1", argument, () -> x.order(0, 0, -1, 0, 0, 0, 0));
        Check.refuses("value 2^50 + 1", argument, () -> x.order(0, 0, (1L << 50) + 1, 0, 0, 0, 0));
        Check.refuses("gas -1", argument, () -> x.order(0, 0, 0, 0, -1, 0, 0));
        Check.refuses("gas 30001", argument, () -> x.order(0, 0, 0, 0, 30001, 0, 0));
        Check.refuses("price -1", argument, () -> x.order(0, 0, 0, 0, 0, -1, 0));
        Check.refuses("price 1000001", argument, () -> x.order(0, 0, 0, 0, 0, 1000001, 0));
    }
}
