/** Promise 5: weight. */
public final class P05WeightTest {
    public static void main(String[] args) {
        aVoterHasThisWeight();
        noSuchVoter();
        zeroToAThousand();
        thereIsAnotherBlock();
        theOneNamedFirst();
        whatIsRefusedChangesNothing();
        Check.end();
    }

    /** Lets all vote for BLOCK 1, in order, and compares what each adds. */
    private static void due(LedgerMachine x, int... weights) {
        int sum = 0;
        for (int voter = 0; voter < 7; voter++) {
            x.vote(voter, 1);
            sum += weights[voter];
            Check.same("WEIGHTS after voter " + voter, x.told(1, 5), sum);
        }
    }

    /** "A VOTER has this WEIGHT.": the latest, and no other VOTER. */
    private static void aVoterHasThisWeight() {
        LedgerMachine x = new LedgerMachine();
        x.weight(3, 5);
        x.weight(3, 6);
        x.block(0, 0);
        due(x, 1, 1, 1, 6, 1, 1, 1);
    }

    /** "IndexOutOfBoundsException: there is no such VOTER." */
    private static void noSuchVoter() {
        LedgerMachine x = new LedgerMachine();
        for (int voter : Check.outside(0, 6)) {
            Check.refuses("voter " + voter, Check.INDEX, () -> x.weight(voter, 9));
        }
        x.weight(0, 4);
        x.weight(6, 3);
        x.block(0, 0);
        due(x, 4, 1, 1, 1, 1, 1, 3);
    }

    /** "IllegalArgumentException: it is not 0 to 1000." */
    private static void zeroToAThousand() {
        LedgerMachine x = new LedgerMachine();
        for (int weight : Check.outside(0, 1000)) {
            Check.refuses("weight " + weight, Check.ARGUMENT, () -> x.weight(2, weight));
        }
        for (int voter = 0; voter < 6; voter++) {
            x.weight(voter, 1000);
        }
        x.weight(6, 0);
        x.block(0, 0);
        due(x, 1000, 1000, 1000, 1000, 1000, 1000, 0);
    }

    /** "IllegalStateException: there is another BLOCK." */
    private static void thereIsAnotherBlock() {
        LedgerMachine x = new LedgerMachine();
        Check.refuses("a BLOCK that is refused", Check.INDEX, () -> x.block(1, 0));
        x.weight(3, 6);
        x.block(0, 0);
        Check.refuses("weight", Check.STATE, () -> x.weight(3, 9));
        Check.refuses("weight as it is", Check.STATE, () -> x.weight(3, 6));
        due(x, 1, 1, 1, 6, 1, 1, 1);
    }

    private static void theOneNamedFirst() {
        LedgerMachine x = new LedgerMachine();
        Check.refuses("voter and weight", Check.INDEX, () -> x.weight(7, -1));
        Check.refuses("voter and weight at the other ends", Check.INDEX, () -> x.weight(-1, 1001));
        x.block(0, 0);
        Check.refuses("voter and a BLOCK", Check.INDEX, () -> x.weight(7, 1));
        Check.refuses("weight and a BLOCK", Check.ARGUMENT, () -> x.weight(0, 1001));
        Check.refuses("weight below 0 and a BLOCK", Check.ARGUMENT, () -> x.weight(0, -1));
        Check.refuses("all three", Check.INDEX, () -> x.weight(-1, -1));
    }

    private static void whatIsRefusedChangesNothing() {
        LedgerMachine x = new LedgerMachine();
        x.weight(3, 5);
        Check.refuses("weight 1001", Check.ARGUMENT, () -> x.weight(3, 1001));
        Check.refuses("weight -1", Check.ARGUMENT, () -> x.weight(3, -1));
        x.block(0, 0);
        due(x, 1, 1, 1, 5, 1, 1, 1);
    }
}
