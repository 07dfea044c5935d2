/** Promise 16: certain. */
public final class P16CertainTest {
    public static void main(String[] args) {
        theBlockThatIsCertain();
        noneWhereThereIsNone();
        theHighest();
        heightIsZeroToThirtyNine();
        Check.end();
    }

    /** "The BLOCK that is CERTAIN at a HEIGHT" */
    private static void theBlockThatIsCertain() {
        LedgerMachine x = new LedgerMachine();
        x.block(0, 0);
        x.block(0, 1);
        x.block(2, 0);
        x.block(2, 0);
        for (int voter = 0; voter < 5; voter++) {
            Check.same("certain(1) before vote " + voter, x.certain(1), -1);
            x.vote(voter, 2);
        }
        Check.same("certain(1)", x.certain(1), 2);
        for (int voter = 2; voter < 7; voter++) {
            Check.same("certain(2) before vote " + voter, x.certain(2), -1);
            x.vote(voter, 4);
        }
        Check.same("certain(2)", x.certain(2), 4);
        Check.same("certain(1) still", x.certain(1), 2);
        Check.same("certain(0)", x.certain(0), 0);
    }

    /** "NONE.": with no BLOCK at the HEIGHT, and with one that is not CERTAIN. */
    private static void noneWhereThereIsNone() {
        LedgerMachine x = new LedgerMachine();
        Check.same("certain(0)", x.certain(0), 0);
        Check.same("no BLOCK at 1", x.certain(1), -1);
        Check.same("no BLOCK at 39", x.certain(39), -1);
        x.block(0, 0);
        Check.same("without votes", x.certain(1), -1);
        for (int voter = 0; voter < 4; voter++) {
            x.vote(voter, 1);
        }
        Check.same("with too few", x.certain(1), -1);
    }

    private static void theHighest() {
        LedgerMachine x = new LedgerMachine();
        x.weight(0, 1000);
        for (int block = 1; block < 40; block++) {
            x.block(block - 1, 0);
            x.vote(0, block);
        }
        for (int height = 0; height < 40; height++) {
            Check.same("certain(" + height + ")", x.certain(height), height);
        }
    }

    /** "IndexOutOfBoundsException: height is not 0 to 39." */
    private static void heightIsZeroToThirtyNine() {
        LedgerMachine x = new LedgerMachine();
        for (int height : Check.outside(0, 39)) {
            Check.refuses("certain(" + height + ")", Check.INDEX, () -> x.certain(height));
        }
        Check.same("certain(39)", x.certain(39), -1);
        Check.same("certain(0)", x.certain(0), 0);
    }
}
