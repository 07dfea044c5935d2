/** "An object is used for at most 512 calls after it has been made": the last of them answer as they should. */
public final class ManyCallsTest {
    public static void main(String[] args) {
        blocksFullOfOrders();
        viewsOfTenFrames();
        refusedCalls();
        Check.end();
    }

    /** 39 BLOCKS of ten ORDERS, each of which STORES and JUMPS until its gas ends. */
    private static void blocksFullOfOrders() {
        LedgerMachine x = new LedgerMachine();
        Acts.code(x, Acts.PUSH, 0, Acts.GAS, Acts.STORE, Acts.JUMP, 0);
        for (int account = 0; account < 32; account++) {
            x.endow(account, 1L << 44, account < 16 ? -1 : 0);
        }
        for (int block = 1; block < 40; block++) {
            for (int i = 0; i < 10; i++) {
                x.order(i, 16 + i, 5, 0, 3000, 7, block - 1);
            }
            Check.same("block", x.block(block - 1, 15), block);
        }
        long sum = 0;
        for (int account = 0; account < 32; account++) {
            sum += x.leaf(39, 32 * account);
        }
        Check.same("all BALANCES together", sum, 1L << 49);
        for (int i = 0; i < 10; i++) {
            Check.same("order " + i, x.receipt(39, i, 1), 3000);
        }
        int[] told = {39, 10, 0, 30000};
        for (int what = 1; what <= 4; what++) {
            Check.same("told(39, " + what + ")", x.told(39, what), told[what - 1]);
        }
        Check.same("BALANCE", x.leaf(39, 0), (1L << 44) - 39 * 3000 * 7);
        Check.same("NONCE", x.leaf(39, 1), 39);
        Check.same("call 512", x.certain(39), -1);
    }

    private static void viewsOfTenFrames() {
        LedgerMachine x = new LedgerMachine();
        Acts.code(x, Acts.GAS, Acts.ARGUMENT, Acts.SELF, Acts.LOOK, Acts.ADD, Acts.RETURN);
        x.endow(1, 0, 0);
        for (int i = 0; i < 254; i++) {
            Check.same("view " + i, x.view(0, 0, 1, i, 30000), 9);
            Check.same("FRAMES of " + i, x.seen(2), 10);
        }
        Check.same("call 512", x.block(0, 0), 1);
    }

    private static void refusedCalls() {
        LedgerMachine x = new LedgerMachine();
        for (int i = 0; i < 511; i++) {
            Check.refuses("draft(9, 0)", Check.ARGUMENT, () -> x.draft(9, 0));
        }
        Check.same("call 512", x.draft(8, 0), 8);
    }
}
