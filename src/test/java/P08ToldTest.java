/** Promise 8: told. */
public final class P08ToldTest {
    private static final int[] TWO_EVENTS = Acts.row(
            Acts.PUSH, 5, Acts.PUSH, 6, Acts.EMIT, Acts.PUSH, 1, Acts.PUSH, 2, Acts.EMIT);

    public static void main(String[] args) {
        itsParent();
        itsHeight();
        howManyOrders();
        howManyEvents();
        theGasThatTheyUsed();
        theWeightsThatVotedForIt();
        whetherItIsCertain();
        noSuchBlock();
        noSuchWhat();
        Check.end();
    }

    private static void due(LedgerMachine x, int block, int what, int due) {
        Check.same("told(" + block + ", " + what + ")", x.told(block, what), due);
    }

    /** "its parent (NONE of BLOCK 0; what = 0)" */
    private static void itsParent() {
        LedgerMachine x = new LedgerMachine();
        x.block(0, 0);
        x.block(1, 0);
        x.block(0, 0);
        x.block(2, 0);
        int[] parents = {-1, 0, 1, 0, 2};
        for (int block = 0; block < 5; block++) {
            due(x, block, 0, parents[block]);
        }
    }

    /** "HEIGHT (1)": from 0 to 39. */
    private static void itsHeight() {
        LedgerMachine x = new LedgerMachine();
        for (int block = 0; block < 40; block++) {
            due(x, block, 1, block);
            if (block < 39) {
                x.block(block, 0);
            }
        }
    }

    /** "how many ORDERS (2)": none, VOID ones as well, and ten. */
    private static void howManyOrders() {
        Bench b = new Bench(TWO_EVENTS);
        due(b.x, 0, 2, 0);
        b.block();
        due(b.x, 1, 2, 0);
        b.order(1, 0, 0, 24).block();
        due(b.x, 2, 2, 1);
        for (int i = 0; i < 10; i++) {
            b.order(9, 0, 0, 25);
        }
        b.block();
        due(b.x, 3, 2, 10);
    }

    /** "EVENTS (3)": none, those that stayed, and sixty at most. */
    private static void howManyEvents() {
        int[] thirty = Acts.row(Acts.PUSH, 30, Acts.DUP, 0, Acts.DUP, 0, Acts.EMIT,
                Acts.PUSH, 1, Acts.SUB, Acts.DUP, 0, Acts.JUMPIF, 2);
        Bench b = new Bench(TWO_EVENTS, thirty);
        due(b.x, 0, 3, 0);
        b.block();
        due(b.x, 1, 3, 0);
        b.order(1, 0, 0, 100).order(1, 0, 0, 40).block();
        due(b.x, 2, 3, 2);
        b.order(2, 0, 0, 2000).order(2, 0, 0, 2000).block();
        due(b.x, 3, 3, 60);
        b.order(2, 0, 0, 2000).order(2, 0, 0, 2000).order(1, 0, 0, 100).block();
        due(b.x, 4, 3, 60);
    }

    /** "the gas that they used (4)": 0 of none and of VOID ones, all that a BROKEN one has, 30000 at most. */
    private static void theGasThatTheyUsed() {
        Bench b = new Bench(TWO_EVENTS, Acts.row(Acts.JUMP, 0));
        due(b.x, 0, 4, 0);
        b.block();
        due(b.x, 1, 4, 0);
        b.x.order(0, 1, 0, 0, 24, 0, 0);
        b.block();
        due(b.x, 2, 4, 0);
        b.order(1, 0, 0, 100).order(1, 0, 0, 40).order(9, 0, 0, 500).block();
        due(b.x, 3, 4, 25 + 34 + 40 + 25);
        b.order(2, 0, 0, 30000).block();
        due(b.x, 4, 4, 30000);
    }

    /** "the WEIGHTS that voted for it (5)": from 0 to 7000; a vote that may not be adds none. */
    private static void theWeightsThatVotedForIt() {
        LedgerMachine x = new LedgerMachine();
        for (int voter = 0; voter < 7; voter++) {
            x.weight(voter, 1000);
        }
        x.block(0, 0);
        x.block(0, 0);
        due(x, 0, 5, 0);
        for (int voter = 0; voter < 7; voter++) {
            due(x, 1, 5, 1000 * voter);
            x.vote(voter, 1);
            x.vote(voter, 1);
            x.vote(voter, 2);
        }
        due(x, 1, 5, 7000);
        due(x, 2, 5, 0);
    }

    /** "whether it is CERTAIN (6)" */
    private static void whetherItIsCertain() {
        LedgerMachine x = new LedgerMachine();
        x.block(0, 0);
        x.block(1, 0);
        due(x, 0, 6, 1);
        for (int voter = 0; voter < 7; voter++) {
            due(x, 1, 6, voter < 5 ? 0 : 1);
            x.vote(voter, 1);
        }
        due(x, 1, 6, 1);
        due(x, 2, 6, 0);
    }

    private static void noSuchBlock() {
        LedgerMachine x = new LedgerMachine();
        x.block(0, 0);
        for (int what = 0; what < 7; what++) {
            int told = what;
            for (int block : Check.outside(0, 1)) {
                Check.refuses("told(" + block + ", " + what + ")", Check.INDEX, () -> x.told(block, told));
            }
        }
    }

    private static void noSuchWhat() {
        LedgerMachine x = new LedgerMachine();
        x.block(0, 0);
        for (int block = 0; block < 2; block++) {
            int of = block;
            for (int what : Check.outside(0, 6)) {
                Check.refuses("told(" + block + ", " + what + ")", Check.INDEX, () -> x.told(of, what));
            }
        }
        Check.refuses("told(2, 7)", Check.INDEX, () -> x.told(2, 7));
    }
}
