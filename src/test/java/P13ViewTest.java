/** Promise 13: view. */
public final class P13ViewTest {
    public static void main(String[] args) {
        whatItRunsWith();
        heightIsThatOfTheBlock();
        whatItEndsWith();
        onABlocksState();
        atItself();
        asALook();
        nothingStays();
        noSuchBlock();
        noSuchAccount();
        gasIsZeroToTheMost();
        theOneNamedFirst();
        whatIsRefusedChangesNothing();
        Check.end();
    }

    /** "A LOOK from an ACCOUNT (ORIGIN and CALLER) at another one on a BLOCK's STATE" */
    private static void whatItRunsWith() {
        int[] acts = {Acts.SELF, Acts.CALLER, Acts.ORIGIN, Acts.VALUE, Acts.ARGUMENT, Acts.GAS};
        long[] due = {1, 5, 5, 0, -9, 499};
        for (int i = 0; i < acts.length; i++) {
            Bench b = new Bench(Acts.row(acts[i], Acts.RETURN));
            Check.same("ACT " + acts[i], b.x.view(0, 5, 1, -9, 500), due[i]);
            Check.same("the gas", b.x.seen(1), 1);
        }
    }

    /** "with HEIGHT that of the BLOCK": not one more, as an ORDER on it would have. */
    private static void heightIsThatOfTheBlock() {
        Bench b = new Bench(Acts.row(Acts.HEIGHT, Acts.RETURN));
        for (int block = 0; block < 40; block++) {
            Check.same("on " + block, b.x.view(block, 0, 1, 0, 500), block);
            if (block < 39) {
                b.run(0, 0, 100);
                Check.same("the ORDER's", b.answer(0), block + 1);
            }
        }
        Bench tree = new Bench(Acts.row(Acts.HEIGHT, Acts.RETURN));
        tree.x.block(0, 0);
        tree.x.block(1, 0);
        tree.x.block(0, 0);
        Check.same("on the third, of HEIGHT 1", tree.x.view(3, 0, 1, 0, 500), 1);
    }

    private static void whatItEndsWith() {
        Bench b = new Bench(
                Acts.row(Acts.ARGUMENT, Acts.RETURN),
                Acts.row(Acts.ARGUMENT, Acts.REVERT),
                Acts.row(Acts.ARGUMENT, Acts.POP, Acts.POP),
                Acts.row(Acts.ARGUMENT));
        for (long argument : new long[] {6, 0, -1, Long.MIN_VALUE, Long.MAX_VALUE}) {
            Check.same("WELL", b.x.view(0, 0, 1, argument, 100), argument);
            Check.same("UNDONE", b.x.view(0, 0, 2, argument, 100), argument);
            Check.same("BROKEN", b.x.view(0, 0, 3, argument, 100), 0);
            Check.same("STOP", b.x.view(0, 0, 4, argument, 100), 0);
            Check.same("without a CODE", b.x.view(0, 1, 0, argument, 100), 0);
        }
    }

    private static void onABlocksState() {
        int[] counts = Acts.row(Acts.PUSH, 0, Acts.LOAD, Acts.VALUE, Acts.JUMPIF, 8, Acts.RETURN, Acts.STOP,
                Acts.PUSH, 1, Acts.ADD, Acts.PUSH, 0, Acts.SWAP, 1, Acts.STORE);
        Bench b = new Bench(counts).run(1, 0, 500).run(1, 0, 500);
        for (int block = 0; block < 3; block++) {
            Check.same("CELL 0 in " + block, b.x.view(block, 0, 1, 0, 100), block);
        }
    }

    private static void atItself() {
        Bench b = new Bench(Acts.row(Acts.CALLER, Acts.RETURN));
        Check.same("from 1 at 1", b.x.view(0, 1, 1, 5, 100), 1);
        Check.same("from 31, which is EMPTY", b.x.view(0, 31, 1, 5, 100), 31);
    }

    private static void asALook() {
        int[][] forbidden = {
            Acts.store(0, 0),
            Acts.row(Acts.PUSH, 0, Acts.PUSH, 0, Acts.MAKE),
            Acts.row(Acts.PUSH, 0, Acts.BECOME),
            Acts.row(Acts.PUSH, 0, Acts.PUSH, 0, Acts.EMIT),
            Acts.row(Acts.PUSH, 0, Acts.CLOSE),
            Acts.call(0, 1, 20)};
        for (int[] acts : forbidden) {
            Bench b = new Bench(Acts.join(acts, Acts.row(Acts.PUSH, 1, Acts.RETURN)));
            Check.same("what it ends with", b.x.view(0, 0, 1, 0, 4000), 0);
            Check.same("how", b.x.seen(0), 3);
            Check.same("its gas", b.x.seen(1), 4000);
        }
    }

    /** "nothing stays": neither in the BLOCK's STATE nor in what is drafted. */
    private static void nothingStays() {
        Bench b = new Bench(Acts.join(Acts.store(0, 1), Acts.row(Acts.PUSH, 1, Acts.RETURN)), Acts.row(Acts.LOCK));
        b.order(1, 0, 0, 500);
        long root = b.x.digest(0, 10, 0);
        b.x.view(0, 0, 1, 0, 1000);
        b.x.view(0, 0, 2, 0, 1000);
        Check.same("the ROOT", b.x.digest(0, 10, 0), root);
        Check.same("the NONCE", b.x.leaf(0, 1), 0);
        Check.same("a LOCK has ended", b.x.view(0, 0, 2, 0, 1000) + b.x.seen(0), 1);
        b.block();
        b.due("the ORDER is done still", 0, 1, 25 + 62 + 1, 1);
        Check.same("its CELL", b.cell(1, 0), 1);
    }

    /** "IndexOutOfBoundsException: there is no such BLOCK" */
    private static void noSuchBlock() {
        Bench b = new Bench(Acts.row(Acts.PUSH, 6, Acts.RETURN)).block();
        for (int block : Check.outside(0, 1)) {
            Check.refuses("block " + block, Check.INDEX, () -> b.x.view(block, 0, 1, 0, 100));
        }
        Check.same("the last", b.x.view(1, 0, 1, 0, 100), 6);
    }

    /** "or ACCOUNT" */
    private static void noSuchAccount() {
        Bench b = new Bench(Acts.row(Acts.PUSH, 6, Acts.RETURN));
        b.x.endow(31, 0, 0);
        for (int account : Check.outside(0, 31)) {
            Check.refuses("from " + account, Check.INDEX, () -> b.x.view(0, account, 1, 0, 100));
            Check.refuses("to " + account, Check.INDEX, () -> b.x.view(0, 0, account, 0, 100));
        }
        Check.same("from 0 at 31", b.x.view(0, 0, 31, 0, 100), 6);
        Check.same("from 31 at 0", b.x.view(0, 31, 0, 0, 100), 0);
    }

    /** "IllegalArgumentException: gas is not 0 to 30000." */
    private static void gasIsZeroToTheMost() {
        Bench b = new Bench(Acts.row(Acts.GAS, Acts.RETURN), Acts.row(Acts.STOP));
        for (int gas : Check.outside(0, 30000)) {
            Check.refuses("gas " + gas, Check.ARGUMENT, () -> b.x.view(0, 0, 1, 0, gas));
        }
        Check.same("gas 30000", b.x.view(0, 0, 1, 0, 30000), 29999);
        Check.same("gas 1", b.x.view(0, 0, 1, 0, 1), 0);
        Check.same("gas 1 ends WELL", b.x.seen(0), 1);
        Check.same("gas 0", b.x.view(0, 0, 1, 0, 0), 0);
        Check.same("gas 0 is too little", b.x.seen(0), 3);
        b.x.view(0, 0, 2, 0, 0);
        Check.same("gas 0 is enough for STOP", b.x.seen(0), 1);
    }

    private static void theOneNamedFirst() {
        Bench b = new Bench(Acts.row(Acts.STOP));
        Check.refuses("block and gas", Check.INDEX, () -> b.x.view(1, 0, 1, 0, -1));
        Check.refuses("from and gas", Check.INDEX, () -> b.x.view(0, 32, 1, 0, 30001));
        Check.refuses("to and gas", Check.INDEX, () -> b.x.view(0, 0, -1, 0, -1));
    }

    private static void whatIsRefusedChangesNothing() {
        Bench b = new Bench(Acts.row(Acts.PUSH, 6, Acts.REVERT));
        b.x.view(0, 0, 1, 0, 100);
        Check.refuses("block 1", Check.INDEX, () -> b.x.view(1, 0, 0, 0, 0));
        Check.refuses("to 32", Check.INDEX, () -> b.x.view(0, 0, 32, 0, 0));
        Check.refuses("gas -1", Check.ARGUMENT, () -> b.x.view(0, 0, 0, 0, -1));
        Check.same("what was seen stays: how", b.x.seen(0), 2);
        Check.same("what was seen stays: gas", b.x.seen(1), 1);
        Check.same("what was seen stays: FRAMES", b.x.seen(2), 1);
    }
}
