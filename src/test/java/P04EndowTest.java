/** Promise 4: endow. */
public final class P04EndowTest {
    public static void main(String[] args) {
        LedgerMachine x = new LedgerMachine();
        Acts.code(x, Acts.STOP);
        Acts.code(x, Acts.STOP);
        x.endow(31, 1L << 44, 1);
        due(x, 31, 1L << 44, 2);
        x.endow(31, 0, -1);
        due(x, 31, 0, 0);
        x.endow(0, 7, 0);
        due(x, 0, 7, 1);
        Check.same("the NONCE", x.leaf(0, 1), 0);
        wrongInputs(x);
        due(x, 0, 7, 1);
        x.block(0, 0);
        afterABlock(x);
        due(x, 0, 7, 1);
        Check.end();
    }

    private static void due(LedgerMachine x, int account, long balance, long code) {
        Check.same("BALANCE of " + account, x.leaf(0, 32 * account), balance);
        Check.same("CODE of " + account + " and 1 more", x.leaf(0, 32 * account + 2), code);
    }

    private static void wrongInputs(LedgerMachine x) {
        Class<IndexOutOfBoundsException> index = IndexOutOfBoundsException.class;
        Check.refuses("account -1", index, () -> x.endow(-1, 0, 0));
        Check.refuses("account 32", index, () -> x.endow(32, 0, 0));
        Check.refuses("code 2", index, () -> x.endow(0, 0, 2));
        Check.refuses("code -2", index, () -> x.endow(0, 0, -2));
        Check.refuses("account and balance", index, () -> x.endow(32, -1, 0));
        Check.refuses("code and balance", index, () -> x.endow(0, -1, 2));
        Check.refuses("balance -1", IllegalArgumentException.class, () -> x.endow(0, -1, 0));
        Check.refuses("balance 2^44 + 1", IllegalArgumentException.class, () -> x.endow(0, (1L << 44) + 1, 0));
        Check.refuses("the least balance", IllegalArgumentException.class, () -> x.endow(0, Long.MIN_VALUE, 0));
    }

    private static void afterABlock(LedgerMachine x) {
        Check.refuses("another block", IllegalStateException.class, () -> x.endow(0, 1, -1));
        Check.refuses("account comes first", IndexOutOfBoundsException.class, () -> x.endow(32, 1, -1));
        Check.refuses("balance comes next", IllegalArgumentException.class, () -> x.endow(0, -1, -1));
    }
}
