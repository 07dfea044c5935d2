/** Terms, 3 BLOCKS: which ORDERS are VOID, and who pays what to whom. */
public final class OrdersTest {
    private static final int[] LOOP = Acts.row(Acts.JUMP, 0);

    public static void main(String[] args) {
        voidOrders();
        gasOfTheBlock();
        whatIsNotUsedIsLeftForTheBlock();
        fees();
        feesOfWhatDoesNotEndWell();
        fromIsMakerOrTo();
        givenBack();
        makersAndEmptyAccounts();
        Check.end();
    }

    private static LedgerMachine poor() {
        LedgerMachine x = new LedgerMachine();
        x.endow(0, 1000, -1);
        return x;
    }

    private static void voidOrders() {
        LedgerMachine x = poor();
        x.order(0, 1, 0, 0, 25, 0, 1);
        x.order(0, 1, 0, 0, 25, 0, -1);
        x.order(0, 1, 0, 0, 24, 0, 0);
        x.order(0, 1, 1001, 0, 25, 0, 0);
        x.order(0, 1, 501, 0, 50, 10, 0);
        x.order(0, 1, 0, 0, 30000, 1000000, 0);
        x.order(0, 1, 1L << 50, 0, 30000, 1000000, 0);
        x.order(2, 1, 0, 0, 25, 1, 0);
        long root = x.digest(0, 10, 0);
        x.block(0, 5);
        for (int i = 0; i < 8; i++) {
            for (int what = 0; what < 3; what++) {
                Check.same("VOID " + i, x.receipt(1, i, what), 0);
            }
        }
        Check.same("nothing was done", x.digest(1, 10, 0), root);
        x.order(0, 1, 500, 0, 50, 10, 0);
        x.order(0, 1, 750, 0, 25, 0, 0);
        x.order(0, 1, 750, 0, 25, 0, 1);
        x.order(0, 1, 0, 0, 25, 0, 1);
        x.block(1, 5);
        long[] ends = {1, 0, 0, 1};
        for (int i = 0; i < 4; i++) {
            Check.same("ends " + i, x.receipt(2, i, 0), ends[i]);
        }
        Check.same("all that it had", x.leaf(2, 0), 250);
        Check.same("NONCE", x.leaf(2, 1), 2);
        Check.same("value", x.leaf(2, 32), 500);
        Check.same("MAKER", x.leaf(2, 5 * 32), 250);
    }

    private static void gasOfTheBlock() {
        Bench b = new Bench(LOOP);
        b.order(1, 0, 0, 20000).order(1, 0, 0, 9975);
        b.x.order(0, 9, 0, 0, 26, 0, 2);
        b.x.order(0, 9, 0, 0, 25, 0, 2);
        b.x.order(0, 9, 0, 0, 25, 0, 3);
        b.block();
        long[] ends = {3, 3, 0, 1, 0};
        for (int i = 0; i < ends.length; i++) {
            Check.same("order " + i, b.ending(i), ends[i]);
        }
        Check.same("gas of the block", b.x.told(1, 4), 30000);
        b.x.order(0, 9, 0, 0, 25, 0, 3);
        b.block();
        Check.same("the next one has its own", b.ending(0), 1);
    }

    private static void whatIsNotUsedIsLeftForTheBlock() {
        Bench b = new Bench(Acts.row(Acts.STOP));
        for (int i = 0; i < 9; i++) {
            b.order(1, 0, 0, 29000);
        }
        b.order(1, 0, 0, 29776).block();
        for (int i = 0; i < 9; i++) {
            Check.same("order " + i, b.ending(i), 1);
        }
        Check.same("above what is left", b.ending(9), 0);
        Check.same("gas of the block", b.x.told(1, 4), 225);
        Bench back = new Bench(Acts.join(Acts.store(0, 1), Acts.store(0, 0)));
        back.order(1, 0, 0, 29000).order(1, 0, 0, 30000 - 94).block();
        Check.same("what is GIVEN BACK is left as well", back.ending(1), 1);
    }

    private static void fees() {
        Bench b = new Bench(Acts.row(Acts.ARGUMENT, Acts.RETURN));
        b.order(1, 10, 3, 500, 7).block();
        Check.same("from", b.balance(0), 1000000 - 10 - 26 * 7);
        Check.same("to", b.balance(1), 110);
        Check.same("MAKER", b.balance(31), 26 * 7);
        LedgerMachine x = new LedgerMachine();
        x.endow(0, 1L << 44, -1);
        x.order(0, 1, 5, 0, 30000, 1000000, 0);
        x.block(0, 2);
        Check.same("the highest price", x.leaf(1, 0), (1L << 44) - 5 - 25000000L);
        Check.same("for its MAKER", x.leaf(1, 64), 25000000L);
    }

    private static void feesOfWhatDoesNotEndWell() {
        Bench b = new Bench(Acts.row(Acts.PUSH, 3, Acts.REVERT), LOOP);
        b.order(1, 10, 3, 500, 7).block();
        Check.same("UNDONE: from", b.balance(0), 1000000 - 26 * 7);
        Check.same("UNDONE: to", b.balance(1), 100);
        Check.same("UNDONE: MAKER", b.balance(31), 26 * 7);
        b.order(2, 10, 3, 500, 7).block();
        Check.same("BROKEN: from", b.balance(0), 1000000 - 526 * 7);
        Check.same("BROKEN: to", b.balance(2), 100);
        Check.same("BROKEN: MAKER", b.balance(31), 526 * 7);
        Check.same("NONCE", b.x.leaf(2, 1), 2);
    }

    private static void fromIsMakerOrTo() {
        LedgerMachine x = poor();
        x.order(0, 0, 300, 0, 100, 3, 0);
        x.block(0, 0);
        Check.same("all at once", x.leaf(1, 0), 1000);
        Check.same("ends", x.receipt(1, 0, 0), 1);
        x.order(0, 0, 701, 0, 100, 3, 1);
        x.block(1, 0);
        Check.same("gas is paid first", x.receipt(2, 0, 0), 0);
    }

    /** n CELLS that were not 0 are 0 then; each costs 22. At most a fifth of what was used is given back. */
    private static void givenBack() {
        int[] sets = Acts.row();
        int[] clears = Acts.row();
        for (int cell = 0; cell < 6; cell++) {
            sets = Acts.join(sets, Acts.store(cell, 1));
            clears = Acts.join(clears, Acts.store(cell, 0));
        }
        Bench b = new Bench(Acts.branch(Acts.row(Acts.ARGUMENT), sets, Acts.join(clears, Acts.row(Acts.STOP))));
        b.order(1, 0, 1, 2000, 3).block();
        b.due("sets", 0, 1, 25 + 3 + 6 * 62, 0);
        b.order(1, 0, 0, 2000, 3).block();
        int used = 25 + 3 + 6 * 22;
        b.due("clears", 0, 1, used - used / 5, 0);
        long all = 25 + 3 + 6 * 62 + used - used / 5;
        Check.same("from", b.balance(0), 1000000 - 3 * all);
        Check.same("MAKER", b.balance(31), 3 * all);
        Check.same("gas of the block", b.x.told(2, 4), used - used / 5);
        roundedDown();
    }

    private static void roundedDown() {
        int[] octets = Acts.join(Acts.store(0, 1), Acts.store(0, 0), Acts.store(0, 1), Acts.store(0, 0));
        Bench b = new Bench(octets).run(0, 0, 900);
        b.due("all is given back", 0, 1, 25 + 2 * 84 - 30, 0);
        int[] clears = Acts.join(Acts.store(0, 0), Acts.store(1, 0));
        int[] sets = Acts.join(Acts.store(0, 1), Acts.store(1, 1));
        b = new Bench(Acts.branch(Acts.row(Acts.ARGUMENT), sets, Acts.join(clears, Acts.row(Acts.STOP))));
        b.order(1, 0, 1, 900).order(1, 0, 0, 900).block();
        b.due("a fifth of 72 is 14", 1, 1, 72 - 14, 0);
    }

    private static void makersAndEmptyAccounts() {
        Bench b = new Bench(Acts.row(Acts.PUSH, 0, Acts.PUSH, 5, Acts.MAKE, Acts.RETURN));
        b.x.order(0, 1, 0, 0, 900, 2, 0);
        b.x.block(0, 2);
        Check.same("a MAKER may be EMPTY", b.x.receipt(1, 0, 2), 2);
        Check.same("and gets what is due", b.x.leaf(1, 64), 5 + 2 * 127);
    }
}
