/** Promise 4: endow. */
public final class P04EndowTest {
    private static final long MOST = 1L << 44;

    public static void main(String[] args) {
        thisBalanceAndCode();
        noneIsNoCode();
        noSuchAccount();
        noSuchCode();
        noCodeAtAll();
        sixteenCodes();
        theBalanceIsZeroToTheMost();
        thereIsAnotherBlock();
        theOneNamedFirst();
        whatIsRefusedChangesNothing();
        Check.end();
    }

    private static LedgerMachine withTwoCodes() {
        LedgerMachine x = new LedgerMachine();
        Acts.code(x, Acts.STOP);
        Acts.code(x, Acts.STOP);
        return x;
    }

    private static void due(LedgerMachine x, int account, long balance, long code) {
        Check.same("BALANCE of " + account, x.leaf(0, 32 * account), balance);
        Check.same("NONCE of " + account, x.leaf(0, 32 * account + 1), 0);
        Check.same("CODE of " + account + " and 1 more", x.leaf(0, 32 * account + 2), code);
        Check.same("CELL 0 of " + account, x.leaf(0, 32 * account + 16), 0);
    }

    /** "BLOCK 0's STATE: an ACCOUNT has this BALANCE and CODE": the latest, and no other ACCOUNT. */
    private static void thisBalanceAndCode() {
        LedgerMachine x = withTwoCodes();
        x.endow(5, 70, 1);
        due(x, 5, 70, 2);
        x.endow(5, 60, 0);
        due(x, 5, 60, 1);
        due(x, 4, 0, 0);
        due(x, 6, 0, 0);
        x.block(0, 0);
        Check.same("the BLOCK on it", x.leaf(1, 160), 60);
    }

    /** "(NONE: none)" */
    private static void noneIsNoCode() {
        LedgerMachine x = withTwoCodes();
        x.endow(5, 70, LedgerMachine.NONE);
        due(x, 5, 70, 0);
        x.endow(5, 70, 1);
        x.endow(5, 70, LedgerMachine.NONE);
        due(x, 5, 70, 0);
        x.endow(5, 0, LedgerMachine.NONE);
        Check.same("EMPTY again", x.digest(0, 10, 0), 0);
    }

    /** "IndexOutOfBoundsException: there is no such ACCOUNT" */
    private static void noSuchAccount() {
        LedgerMachine x = withTwoCodes();
        for (int account : Check.outside(0, 31)) {
            Check.refuses("account " + account, Check.INDEX, () -> x.endow(account, 1, 0));
        }
        x.endow(0, 1, 0);
        due(x, 0, 1, 1);
        x.endow(31, 2, 1);
        due(x, 31, 2, 2);
    }

    /** "or CODE": the last one that there is, the first that there is not; at the other end NONE, and what is below it. */
    private static void noSuchCode() {
        LedgerMachine x = withTwoCodes();
        for (int code : Check.outside(-1, 1)) {
            Check.refuses("code " + code, Check.INDEX, () -> x.endow(3, 1, code));
        }
        for (int code = -1; code <= 1; code++) {
            x.endow(3, 1, code);
            due(x, 3, 1, code + 1);
        }
        Acts.code(x, Acts.STOP);
        x.endow(3, 1, 2);
        due(x, 3, 1, 3);
    }

    private static void noCodeAtAll() {
        LedgerMachine x = new LedgerMachine();
        Check.refuses("code 0", Check.INDEX, () -> x.endow(3, 1, 0));
        Acts.code(x, 40);
        Check.refuses("code 0 behind a FAULT", Check.INDEX, () -> x.endow(3, 1, 0));
        x.endow(3, 1, -1);
        due(x, 3, 1, 0);
    }

    private static void sixteenCodes() {
        LedgerMachine x = new LedgerMachine();
        for (int code = 0; code < 16; code++) {
            int next = code;
            Check.refuses("code " + code + " before it is", Check.INDEX, () -> x.endow(3, 1, next));
            Acts.code(x, Acts.STOP);
            x.endow(3, 1, code);
            due(x, 3, 1, code + 1);
        }
        Check.refuses("code 16", Check.INDEX, () -> x.endow(3, 1, 16));
    }

    /** "IllegalArgumentException: the BALANCE is not 0 to 2^44" */
    private static void theBalanceIsZeroToTheMost() {
        LedgerMachine x = withTwoCodes();
        for (long balance : Check.outside(0, MOST)) {
            Check.refuses("balance " + balance, Check.ARGUMENT, () -> x.endow(3, balance, 0));
        }
        x.endow(3, MOST, 0);
        due(x, 3, MOST, 1);
        x.endow(3, 0, 0);
        due(x, 3, 0, 1);
        for (int account = 0; account < 32; account++) {
            x.endow(account, MOST, -1);
        }
        due(x, 31, MOST, 0);
    }

    /** "IllegalStateException: there is another BLOCK." */
    private static void thereIsAnotherBlock() {
        LedgerMachine x = withTwoCodes();
        x.endow(3, 5, 0);
        Check.refuses("a BLOCK that is refused", Check.INDEX, () -> x.block(1, 0));
        x.endow(3, 6, 0);
        x.block(0, 0);
        Check.refuses("endow", Check.STATE, () -> x.endow(3, 7, 1));
        Check.refuses("endow with what it has", Check.STATE, () -> x.endow(3, 6, 0));
        due(x, 3, 6, 1);
        Check.same("the BLOCK on it", x.leaf(1, 96), 6);
    }

    private static void theOneNamedFirst() {
        LedgerMachine x = withTwoCodes();
        Check.refuses("account and balance", Check.INDEX, () -> x.endow(32, -1, 0));
        Check.refuses("code and balance", Check.INDEX, () -> x.endow(0, MOST + 1, 2));
        x.block(0, 0);
        Check.refuses("account and a BLOCK", Check.INDEX, () -> x.endow(-1, 1, 0));
        Check.refuses("code and a BLOCK", Check.INDEX, () -> x.endow(0, 1, 2));
        Check.refuses("balance and a BLOCK", Check.ARGUMENT, () -> x.endow(0, -1, 0));
        Check.refuses("the highest balance and a BLOCK", Check.ARGUMENT, () -> x.endow(0, MOST + 1, -1));
        Check.refuses("all three", Check.INDEX, () -> x.endow(32, -1, -2));
    }

    private static void whatIsRefusedChangesNothing() {
        LedgerMachine x = withTwoCodes();
        x.endow(3, 5, 0);
        Check.refuses("code 2", Check.INDEX, () -> x.endow(3, 9, 2));
        due(x, 3, 5, 1);
        Check.refuses("balance -1", Check.ARGUMENT, () -> x.endow(3, -1, 1));
        due(x, 3, 5, 1);
    }
}
