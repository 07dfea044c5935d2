/** Promise 13: view. */
public final class P13ViewTest {
    public static void main(String[] args) {
        whatItRunsWith();
        onABlocksState();
        nothingStays();
        wrongInputs();
        Check.end();
    }

    private static void whatItRunsWith() {
        int[] acts = {Acts.SELF, Acts.CALLER, Acts.ORIGIN, Acts.VALUE, Acts.ARGUMENT, Acts.HEIGHT, Acts.GAS};
        long[] due = {1, 5, 5, 0, -9, 2, 499};
        for (int i = 0; i < acts.length; i++) {
            Bench b = new Bench(Acts.row(acts[i], Acts.RETURN));
            b.block().block().block();
            Check.same("ACT " + acts[i], b.x.view(2, 5, 1, -9, 500), due[i]);
            Check.same("the gas", b.x.seen(1), 1);
        }
        Bench b = new Bench(Acts.row(Acts.PUSH, 6, Acts.REVERT), Acts.row(Acts.PUSH, 6, Acts.POP, Acts.POP));
        Check.same("UNDONE", b.x.view(0, 0, 1, 0, 1), 6);
        Check.same("BROKEN", b.x.view(0, 0, 2, 0, 100), 0);
        Check.same("without a CODE", b.x.view(0, 1, 0, 5, 100), 0);
        Check.same("at itself", b.x.view(0, 1, 1, 5, 100), 6);
        Check.same("with gas 0", b.x.view(0, 1, 1, 5, 0), 0);
        Check.same("how that ended", b.x.seen(0), 3);
        Check.same("with gas 30000", b.x.view(0, 1, 1, 5, 30000), 6);
    }

    private static void onABlocksState() {
        int[] counts = Acts.row(Acts.PUSH, 0, Acts.LOAD, Acts.VALUE, Acts.JUMPIF, 8, Acts.RETURN, Acts.STOP,
                Acts.PUSH, 1, Acts.ADD, Acts.PUSH, 0, Acts.SWAP, 1, Acts.STORE);
        Bench b = new Bench(counts);
        b.run(1, 0, 500).run(1, 0, 500);
        for (int block = 0; block < 3; block++) {
            Check.same("CELL 0 in " + block, b.x.view(block, 0, 1, 0, 100), block);
        }
    }

    private static void nothingStays() {
        Bench b = new Bench(Acts.join(Acts.store(0, 1), Acts.row(Acts.PUSH, 1, Acts.RETURN)));
        b.order(1, 0, 0, 500);
        long root = b.x.digest(0, 10, 0);
        Check.same("STORE is BROKEN", b.x.view(0, 0, 1, 0, 1000), 0);
        Check.same("how it ended", b.x.seen(0), 3);
        Check.same("the root", b.x.digest(0, 10, 0), root);
        Check.same("the nonce", b.x.leaf(0, 1), 0);
        b.block();
        Check.same("the order is done still", b.ending(0), 1);
    }

    private static void wrongInputs() {
        Bench b = new Bench(Acts.row(Acts.PUSH, 6, Acts.RETURN));
        LedgerMachine x = b.x;
        x.view(0, 0, 1, 0, 100);
        Class<IndexOutOfBoundsException> index = IndexOutOfBoundsException.class;
        Check.refuses("block -1", index, () -> x.view(-1, 0, 1, 0, 0));
        Check.refuses("block 1", index, () -> x.view(1, 0, 1, 0, 0));
        Check.refuses("from -1", index, () -> x.view(0, -1, 1, 0, 0));
        Check.refuses("from 32", index, () -> x.view(0, 32, 1, 0, 0));
        Check.refuses("to -1", index, () -> x.view(0, 0, -1, 0, 0));
        Check.refuses("to 32", index, () -> x.view(0, 0, 32, 0, 0));
        Check.refuses("to and gas", index, () -> x.view(0, 0, 32, 0, -1));
        Check.refuses("gas -1", IllegalArgumentException.class, () -> x.view(0, 0, 1, 0, -1));
        Check.refuses("gas 30001", IllegalArgumentException.class, () -> x.view(0, 0, 1, 0, 30001));
        Check.same("what was seen stays: how", x.seen(0), 1);
        Check.same("what was seen stays: gas", x.seen(1), 1);
        Check.same("what was seen stays: FRAMES", x.seen(2), 1);
    }
}
