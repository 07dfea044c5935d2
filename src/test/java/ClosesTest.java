/** Terms, 2 CODES: CLOSE. */
public final class ClosesTest {
    public static void main(String[] args) {
        itsBalanceGoesToTheHeir();
        balanceZero();
        noSuchHeir();
        itselfAsHeir();
        codeAndCellsAreNone();
        nothingIsGivenBackForCells();
        endsWellWithZero();
        itsNonceStays();
        calledAgainItHasNoCode();
        anOuterFrameGoesOn();
        undoneItIsAsItWas();
        Check.end();
    }

    private static int[] close(long heir) {
        return Acts.join(Acts.big(heir), Acts.row(Acts.CLOSE));
    }

    /** "its BALANCE goes to ACCOUNT heir": to each that there is. */
    private static void itsBalanceGoesToTheHeir() {
        for (int heir : new int[] {0, 2, 20, 31}) {
            Bench b = new Bench(close(heir));
            b.run(6, 0, 900).due("heir " + heir, 0, 1, 25 + 22, 0);
            Check.same("BALANCE", b.balance(1), 0);
            Check.same("the heir's", b.balance(heir), heir == 0 ? 1000000 + 100 : 106);
        }
    }

    private static void balanceZero() {
        LedgerMachine x = new LedgerMachine();
        Acts.code(x, close(9));
        x.endow(1, 0, 0);
        x.order(2, 1, 0, 0, 100, 0, 0);
        x.block(0, 8);
        Check.same("ends", x.receipt(1, 0, 0), 1);
        Check.same("it is EMPTY", x.digest(1, 5, 1), 0);
        Check.same("so is the heir", x.digest(1, 5, 9), 0);
    }

    private static void broken(long heir) {
        Bench b = new Bench(close(heir)).run(0, 0, 900);
        b.due("heir " + heir, 0, 3, 900, 0);
        Check.same("it is as it was", b.x.digest(1, 5, 1), b.x.digest(0, 5, 1));
    }

    /** "(no such one .. : BROKEN)" */
    private static void noSuchHeir() {
        for (long heir : new long[] {-1, 32, 33, 1L << 32, (1L << 32) + 2, Long.MIN_VALUE, Long.MAX_VALUE}) {
            broken(heir);
        }
    }

    /** "(.. or itself: BROKEN)" */
    private static void itselfAsHeir() {
        broken(1);
        broken((1L << 32) + 1);
    }

    /** "its CODE and CELLS are none" */
    private static void codeAndCellsAreNone() {
        int[] stores = Acts.row();
        for (int cell = 0; cell < 16; cell++) {
            stores = Acts.join(stores, Acts.store(cell, 1 + cell));
        }
        Bench b = new Bench(Acts.join(stores, close(20)), Acts.row(Acts.STOP)).run(0, 0, 2000);
        b.due("CLOSE", 0, 1, 25 + 16 * 62 + 22, 0);
        Check.same("it is EMPTY", b.x.digest(1, 5, 1), 0);
        Check.same("the account before it", b.balance(0), 1000000);
        Check.same("the account behind it", b.balance(2), 100);
        Check.same("its CODE", b.codeOf(2), 1);
    }

    private static void nothingIsGivenBackForCells() {
        new Bench(Acts.join(Acts.store(0, 1), close(20))).run(0, 0, 900).due("one CELL", 0, 1, 25 + 62 + 22, 0);
    }

    /** "ends WELL with 0": what stands behind it is not done. */
    private static void endsWellWithZero() {
        Bench b = new Bench(Acts.join(Acts.row(Acts.PUSH, 7), close(20), Acts.row(Acts.POP, Acts.POP, Acts.POP)),
                Acts.join(Acts.call(0, 0, 1), Acts.BOTH));
        b.order(2, 0, 0, 5000).block();
        Check.same("of a CALL", b.answer(0), 1);
    }

    private static void itsNonceStays() {
        LedgerMachine x = new LedgerMachine();
        Acts.code(x, Acts.PUSH, 9, Acts.CLOSE);
        x.endow(1, 1000, 0);
        x.order(1, 1, 0, 0, 100, 1, 0);
        x.block(0, 8);
        Check.same("its NONCE", x.leaf(1, 33), 1);
        Check.same("its CODE", x.leaf(1, 34), 0);
        Check.same("what was not used comes back to it", x.leaf(1, 32), 100 - 46);
        Check.same("the heir has what was left then", x.leaf(1, 9 * 32), 900);
        Check.same("the MAKER what was used", x.leaf(1, 8 * 32), 46);
    }

    private static void calledAgainItHasNoCode() {
        int[] twice = Acts.join(Acts.call(0, 5, 1), Acts.row(Acts.POP, Acts.POP), Acts.call(0, 7, 1), Acts.BOTH);
        Bench b = new Bench(close(20), twice);
        b.order(2, 0, 0, 9000).order(1, 3, 0, 100).block();
        Check.same("it ends WELL with 0", b.answer(0), 1);
        Check.same("the heir", b.balance(20), 105);
        b.due("another ORDER", 1, 1, 25, 0);
        Check.same("it keeps what it got then", b.balance(1), 10);
    }

    private static void anOuterFrameGoesOn() {
        int[] ordered = Acts.join(Acts.call(0, 0, 1), Acts.store(2, 9), Acts.row(Acts.PUSH, 2, Acts.LOAD, Acts.RETURN));
        Bench b = new Bench(Acts.calledOrOrdered(close(20), ordered)).run(0, 0, 9000);
        Check.same("it goes on", b.answer(0), 9);
        Check.same("its CODE is none", b.codeOf(1), -1);
        Check.same("its CELL is not", b.cell(1, 2), 9);
    }

    private static void undoneItIsAsItWas() {
        int[] calls = Acts.branch(Acts.join(Acts.call(0, 0, 1), Acts.row(Acts.ARGUMENT)),
                Acts.row(Acts.PUSH, 0, Acts.REVERT), Acts.row(Acts.POP, Acts.POP, Acts.POP));
        Bench b = new Bench(Acts.join(Acts.store(3, 7), close(20)), calls);
        b.order(2, 0, 0, 5000).order(2, 0, 1, 5000).block();
        Check.same("BROKEN", b.ending(0), 3);
        Check.same("UNDONE", b.ending(1), 2);
        Check.same("it is as it was", b.x.digest(1, 5, 1), b.x.digest(0, 5, 1));
        Check.same("the heir has nothing", b.balance(20), 0);
    }
}
