/** Promise 15: vote. */
public final class P15VoteTest {
    public static void main(String[] args) {
        onceAtEachHeight();
        twoThirdsAreNotEnough();
        weightsOfNothing();
        wrongInputs();
        Check.end();
    }

    private static LedgerMachine tree() {
        LedgerMachine x = new LedgerMachine();
        x.block(0, 0);
        x.block(0, 1);
        x.block(1, 0);
        x.block(2, 0);
        x.block(1, 1);
        return x;
    }

    private static void onceAtEachHeight() {
        LedgerMachine x = tree();
        Check.same("its parent is not certain", x.vote(0, 3), -1);
        Check.same("the first vote", x.vote(0, 1), 0);
        Check.same("the same again", x.vote(0, 1), -1);
        Check.same("another one of the height", x.vote(0, 2), -1);
        Check.same("that one has no votes", x.told(2, 5), 0);
        for (int voter = 1; voter < 4; voter++) {
            Check.same("voter " + voter, x.vote(voter, 1), 0);
        }
        Check.same("four of seven are not enough", x.vote(0, 3), -1);
        Check.same("voter 4", x.vote(4, 1), 1);
        Check.same("beside a certain one", x.vote(5, 2), 0);
        Check.same("for a certain one", x.vote(6, 1), 1);
        Check.same("on a certain one", x.vote(0, 3), 0);
        Check.same("once at that height", x.vote(0, 5), -1);
        Check.same("another voter there", x.vote(1, 5), 0);
        Check.same("on one that is not", x.vote(2, 4), -1);
        Check.same("a refused vote is none", x.vote(2, 3), 0);
        Check.same("the weights of 1", x.told(1, 5), 6);
        Check.same("the weights of 2", x.told(2, 5), 1);
        Check.same("the weights of 3", x.told(3, 5), 2);
        Check.same("the weights of 4", x.told(4, 5), 0);
        Check.same("the weights of 5", x.told(5, 5), 1);
    }

    private static void twoThirdsAreNotEnough() {
        LedgerMachine x = new LedgerMachine();
        int[] weights = {4, 1, 1, 0, 0, 0, 0};
        for (int voter = 0; voter < 7; voter++) {
            x.weight(voter, weights[voter]);
        }
        x.block(0, 0);
        Check.same("two thirds", x.vote(0, 1), 0);
        Check.same("no more with a weight of 0", x.vote(6, 1), 0);
        Check.same("a weight of 0 has voted", x.vote(6, 1), -1);
        Check.same("above two thirds", x.vote(1, 1), 1);
    }

    private static void weightsOfNothing() {
        LedgerMachine x = new LedgerMachine();
        for (int voter = 0; voter < 7; voter++) {
            x.weight(voter, 0);
        }
        x.block(0, 0);
        for (int voter = 0; voter < 7; voter++) {
            Check.same("0 is not above 0", x.vote(voter, 1), 0);
        }
    }

    private static void wrongInputs() {
        LedgerMachine x = tree();
        for (int[] w : new int[][] {{-1, 1}, {7, 1}, {0, 0}, {0, -1}, {0, 6}, {0, Integer.MAX_VALUE}, {Integer.MIN_VALUE, 1}}) {
            Check.refuses("vote(" + w[0] + ", " + w[1] + ")", IndexOutOfBoundsException.class, () -> x.vote(w[0], w[1]));
        }
        Check.same("no vote was kept", x.vote(0, 1), 0);
        Check.same("but that one", x.told(1, 5), 1);
    }
}
