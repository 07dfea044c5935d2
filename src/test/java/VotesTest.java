/** Terms, 4 VOTES: who may vote for what, and what is CERTAIN. */
public final class VotesTest {
    public static void main(String[] args) {
        sevenVoters();
        whoseParentIsCertain();
        onlyItsOwnParentCounts();
        onceAtEachHeight();
        onceAtTheLastHeight();
        aVoteThatMayNotBeIsNone();
        blockZeroIsCertain();
        aboveTwoThirds();
        aboveTwoThirdsAtTheMost();
        weightsOfNothing();
        oneWeightAlone();
        certainStays();
        Check.end();
    }

    private static LedgerMachine weighted(int... weights) {
        LedgerMachine x = new LedgerMachine();
        for (int voter = 0; voter < 7; voter++) {
            x.weight(voter, weights[voter]);
        }
        x.block(0, 0);
        return x;
    }

    /** "VOTERS are 0 .. 6, with WEIGHTS." */
    private static void sevenVoters() {
        LedgerMachine x = weighted(1, 20, 300, 4, 50, 600, 7);
        int[] sums = {1, 21, 321, 325, 375, 975, 982};
        for (int voter = 0; voter < 7; voter++) {
            x.vote(voter, 1);
            Check.same("WEIGHTS after " + voter, x.told(1, 5), sums[voter]);
        }
        Check.refuses("voter -1", Check.INDEX, () -> x.vote(-1, 1));
        Check.refuses("voter 7", Check.INDEX, () -> x.vote(7, 1));
    }

    /** "One may vote for a BLOCK whose parent is CERTAIN": not with one vote less. */
    private static void whoseParentIsCertain() {
        LedgerMachine x = new LedgerMachine();
        x.block(0, 0);
        x.block(1, 0);
        x.block(2, 0);
        for (int voter = 0; voter < 5; voter++) {
            Check.same("before vote " + voter, x.vote(6, 2), -1);
            x.vote(voter, 1);
        }
        Check.same("when it is CERTAIN", x.vote(6, 2), 0);
        Check.same("one more above", x.vote(6, 3), -1);
    }

    /** Another BLOCK of the parent's HEIGHT that is CERTAIN does not do. */
    private static void onlyItsOwnParentCounts() {
        LedgerMachine x = new LedgerMachine();
        x.block(0, 0);
        x.block(0, 0);
        x.block(1, 0);
        x.block(2, 0);
        for (int voter = 0; voter < 5; voter++) {
            x.vote(voter, 1);
        }
        Check.same("on the CERTAIN one", x.vote(0, 3), 0);
        Check.same("on the other", x.vote(1, 4), -1);
        Check.same("beside the CERTAIN one", x.vote(5, 2), 0);
    }

    /** "once at each HEIGHT" */
    private static void onceAtEachHeight() {
        LedgerMachine x = new LedgerMachine();
        x.block(0, 0);
        x.block(0, 0);
        x.block(1, 0);
        x.block(1, 0);
        Check.same("at HEIGHT 1", x.vote(0, 1), 0);
        Check.same("the same", x.vote(0, 1), -1);
        Check.same("another one", x.vote(0, 2), -1);
        for (int voter = 1; voter < 5; voter++) {
            x.vote(voter, 1);
        }
        Check.same("at HEIGHT 2", x.vote(0, 3), 0);
        Check.same("another one there", x.vote(0, 4), -1);
        Check.same("another VOTER there", x.vote(1, 4), 0);
        int[] weights = {0, 5, 0, 1, 1};
        for (int block = 1; block < 5; block++) {
            Check.same("WEIGHTS of " + block, x.told(block, 5), weights[block]);
        }
    }

    private static void onceAtTheLastHeight() {
        LedgerMachine x = new LedgerMachine();
        x.weight(0, 1000);
        for (int block = 1; block < 40; block++) {
            x.block(block - 1, 0);
            Check.same("vote for " + block, x.vote(0, block), 1);
            Check.same("again", x.vote(0, block), -1);
        }
        Check.same("another VOTER at HEIGHT 39", x.vote(1, 39), 1);
        Check.same("once", x.vote(1, 39), -1);
        Check.same("at HEIGHT 7 as well", x.vote(1, 7), 1);
        Check.same("WEIGHTS", x.told(39, 5), 1001);
    }

    /** NONE leaves the HEIGHT open. */
    private static void aVoteThatMayNotBeIsNone() {
        LedgerMachine x = new LedgerMachine();
        x.block(0, 0);
        x.block(0, 0);
        x.block(2, 0);
        x.block(1, 0);
        Check.same("too early", x.vote(0, 4), -1);
        for (int voter = 0; voter < 5; voter++) {
            x.vote(voter, 1);
        }
        Check.same("on one that is not CERTAIN", x.vote(0, 3), -1);
        Check.same("the HEIGHT is open still", x.vote(0, 4), 0);
    }

    /** "BLOCK 0 is CERTAIN" */
    private static void blockZeroIsCertain() {
        LedgerMachine x = weighted(0, 0, 0, 0, 0, 0, 0);
        Check.same("told(0, 6)", x.told(0, 6), 1);
        Check.same("certain(0)", x.certain(0), 0);
        Check.same("one may vote on it", x.vote(0, 1), 0);
    }

    /** "when three times the WEIGHTS that voted for it are above twice all WEIGHTS" */
    private static void aboveTwoThirds() {
        LedgerMachine x = weighted(4, 1, 1, 0, 0, 0, 0);
        Check.same("12 of 12", x.vote(0, 1), 0);
        Check.same("a WEIGHT of 0 adds none", x.vote(6, 1), 0);
        Check.same("and has voted", x.vote(6, 1), -1);
        Check.same("15 of 12", x.vote(1, 1), 1);
        LedgerMachine under = weighted(5, 1, 1, 1, 0, 0, 0);
        Check.same("15 of 16", under.vote(0, 1), 0);
        Check.same("18 of 16", under.vote(1, 1), 1);
        LedgerMachine just = weighted(5, 2, 0, 0, 0, 0, 0);
        Check.same("15 of 14", just.vote(0, 1), 1);
    }

    private static void aboveTwoThirdsAtTheMost() {
        LedgerMachine x = weighted(1000, 1000, 1000, 1000, 1000, 1000, 1000);
        for (int voter = 0; voter < 7; voter++) {
            Check.same("3000 times " + (voter + 1) + " of 14000", x.vote(voter, 1), voter < 4 ? 0 : 1);
        }
        LedgerMachine even = weighted(1000, 1000, 1000, 1000, 1000, 999, 1);
        for (int voter = 0; voter < 4; voter++) {
            Check.same("up to 12000 of 12000", even.vote(voter, 1), 0);
        }
        Check.same("12003 of 12000", even.vote(6, 1), 1);
    }

    /** 0 is not above 0. */
    private static void weightsOfNothing() {
        LedgerMachine x = weighted(0, 0, 0, 0, 0, 0, 0);
        for (int voter = 0; voter < 7; voter++) {
            Check.same("voter " + voter, x.vote(voter, 1), 0);
        }
        Check.same("certain(1)", x.certain(1), -1);
        Check.same("told(1, 6)", x.told(1, 6), 0);
    }

    private static void oneWeightAlone() {
        LedgerMachine x = weighted(0, 0, 0, 1, 0, 0, 0);
        Check.same("without WEIGHT", x.vote(0, 1), 0);
        Check.same("3 of 2", x.vote(3, 1), 1);
    }

    private static void certainStays() {
        LedgerMachine x = new LedgerMachine();
        x.block(0, 0);
        x.block(0, 0);
        for (int voter = 0; voter < 5; voter++) {
            x.vote(voter, 1);
        }
        Check.same("beside it", x.vote(5, 2), 0);
        Check.same("beside it", x.vote(6, 2), 0);
        Check.same("CERTAIN still", x.told(1, 6), 1);
        Check.same("the other is not", x.told(2, 6), 0);
    }
}
