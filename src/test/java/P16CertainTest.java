/** Promise 16: certain. */
public final class P16CertainTest {
    public static void main(String[] args) {
        LedgerMachine x = new LedgerMachine();
        x.block(0, 0);
        x.block(0, 1);
        x.block(2, 0);
        x.block(2, 0);
        Check.same("certain(0)", x.certain(0), 0);
        Check.same("certain(1)", x.certain(1), -1);
        for (int voter = 0; voter < 5; voter++) {
            x.vote(voter, 2);
        }
        Check.same("certain(1) after votes", x.certain(1), 2);
        Check.same("certain(2)", x.certain(2), -1);
        for (int voter = 2; voter < 7; voter++) {
            x.vote(voter, 4);
        }
        Check.same("certain(2) after votes", x.certain(2), 4);
        Check.same("certain(0) still", x.certain(0), 0);
        Check.same("certain(1) still", x.certain(1), 2);
        Check.same("where there is no block", x.certain(39), -1);
        for (int height : new int[] {-1, 40, Integer.MIN_VALUE, Integer.MAX_VALUE}) {
            Check.refuses("certain(" + height + ")", IndexOutOfBoundsException.class, () -> x.certain(height));
        }
        highest();
        Check.end();
    }

    private static void highest() {
        LedgerMachine x = new LedgerMachine();
        x.weight(0, 1000);
        for (int block = 1; block < 40; block++) {
            x.block(block - 1, 0);
            Check.same("vote for " + block, x.vote(0, block), 1);
        }
        for (int height = 0; height < 40; height++) {
            Check.same("certain(" + height + ")", x.certain(height), height);
        }
    }
}
