/** Promise 5: weight. */
public final class P05WeightTest {
    public static void main(String[] args) {
        LedgerMachine x = new LedgerMachine();
        x.weight(0, 1000);
        x.weight(6, 0);
        x.weight(3, 5);
        x.weight(3, 6);
        wrongInputs(x);
        x.block(0, 0);
        Check.refuses("another block", IllegalStateException.class, () -> x.weight(3, 9));
        Check.refuses("voter comes first", IndexOutOfBoundsException.class, () -> x.weight(7, 1001));
        Check.refuses("weight comes next", IllegalArgumentException.class, () -> x.weight(0, 1001));
        long[] sums = {1000, 1001, 1002, 1008, 1009, 1010, 1010};
        for (int voter = 0; voter < 7; voter++) {
            x.vote(voter, 1);
            Check.same("WEIGHTS after voter " + voter, x.told(1, 5), sums[voter]);
        }
        Check.end();
    }

    private static void wrongInputs(LedgerMachine x) {
        Check.refuses("voter -1", IndexOutOfBoundsException.class, () -> x.weight(-1, 1));
        Check.refuses("voter 7", IndexOutOfBoundsException.class, () -> x.weight(7, 1));
        Check.refuses("voter and weight", IndexOutOfBoundsException.class, () -> x.weight(7, -1));
        Check.refuses("weight -1", IllegalArgumentException.class, () -> x.weight(3, -1));
        Check.refuses("weight 1001", IllegalArgumentException.class, () -> x.weight(3, 1001));
    }
}
