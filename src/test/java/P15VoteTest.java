/** Promise 15: vote. VotesTest tells who may, and what is CERTAIN. */
public final class P15VoteTest {
    public static void main(String[] args) {
        whetherItIsCertainThen();
        noneWhenItMayNot();
        noSuchVoter();
        noSuchBlock();
        blockZeroIsNoneHere();
        whatIsRefusedIsNoVote();
        Check.end();
    }

    private static LedgerMachine with(int blocks) {
        LedgerMachine x = new LedgerMachine();
        for (int block = 1; block < blocks; block++) {
            x.block(0, 0);
        }
        return x;
    }

    /** "whether it is CERTAIN then (1, 0)" */
    private static void whetherItIsCertainThen() {
        LedgerMachine x = with(2);
        for (int voter = 0; voter < 7; voter++) {
            Check.same("voter " + voter, x.vote(voter, 1), voter < 4 ? 0 : 1);
        }
    }

    /** "NONE when it may not." */
    private static void noneWhenItMayNot() {
        LedgerMachine x = with(3);
        x.block(1, 0);
        Check.same("its parent is not CERTAIN", x.vote(0, 3), -1);
        Check.same("the first at the HEIGHT", x.vote(0, 1), 0);
        Check.same("the same again", x.vote(0, 1), -1);
        Check.same("another one of the HEIGHT", x.vote(0, 2), -1);
        Check.same("nothing was counted", x.told(1, 5), 1);
        Check.same("nor there", x.told(2, 5), 0);
        Check.same("nor there", x.told(3, 5), 0);
    }

    /** "IndexOutOfBoundsException: there is no such VOTER" */
    private static void noSuchVoter() {
        LedgerMachine x = with(2);
        for (int voter : Check.outside(0, 6)) {
            Check.refuses("voter " + voter, Check.INDEX, () -> x.vote(voter, 1));
        }
        Check.same("voter 0", x.vote(0, 1), 0);
        Check.same("voter 6", x.vote(6, 1), 0);
    }

    /** "or BLOCK": the last one that there is, the first that is not. */
    private static void noSuchBlock() {
        LedgerMachine x = with(3);
        for (int block : Check.outside(1, 2)) {
            Check.refuses("block " + block, Check.INDEX, () -> x.vote(0, block));
        }
        Check.refuses("block -1", Check.INDEX, () -> x.vote(0, -1));
        Check.same("block 2", x.vote(0, 2), 0);
        Check.same("block 1", x.vote(1, 1), 0);
        LedgerMachine full = with(40);
        Check.same("block 39", full.vote(0, 39), 0);
        Check.refuses("block 40", Check.INDEX, () -> full.vote(1, 40));
    }

    /** "(BLOCK 0 is none here)" */
    private static void blockZeroIsNoneHere() {
        LedgerMachine x = new LedgerMachine();
        Check.refuses("of BLOCK 0 alone", Check.INDEX, () -> x.vote(0, 0));
        x.block(0, 0);
        Check.refuses("of BLOCK 0", Check.INDEX, () -> x.vote(0, 0));
        x.vote(0, 1);
        Check.refuses("once more", Check.INDEX, () -> x.vote(0, 0));
        Check.same("it has no votes", x.told(0, 5), 0);
    }

    private static void whatIsRefusedIsNoVote() {
        LedgerMachine x = with(3);
        for (int voter = 0; voter < 7; voter++) {
            int who = voter;
            Check.refuses("block 0", Check.INDEX, () -> x.vote(who, 0));
            Check.refuses("block 3", Check.INDEX, () -> x.vote(who, 3));
            Check.same("voter " + voter + " may still", x.vote(voter, 1), voter < 4 ? 0 : 1);
        }
        Check.same("WEIGHTS", x.told(1, 5), 7);
    }
}
