/** Terms, 3 BLOCKS: which ORDERS are VOID, and who pays what to whom. */
public final class OrdersTest {
    private static final int[] LOOP = Acts.row(Acts.JUMP, 0);

    public static void main(String[] args) {
        voidByItsNonce();
        noncesInOneBlock();
        voidByGasBelowTwentyFive();
        voidByGasAboveWhatIsLeft();
        allThatIsLeft();
        whatWasNotUsedIsLeft();
        whatIsGivenBackIsLeft();
        voidOnesTakeNothing();
        eachBlockHasItsOwnGas();
        voidByItsBalance();
        voidByTheHighestPrice();
        valueThatCameBefore();
        aVoidOneDoesNothing();
        twentyFiveOfGasIsUsed();
        theRestAsGas();
        gasTimesPriceGoesFirst();
        whatWasUsedGoesToTheMaker();
        whatDoesNotEndWellPaysAsWell();
        fromIsMakerAndTo();
        atMostAFifth();
        givenBackIsPaidBack();
        nothingGivenBackWhenUndone();
        howItEnds();
        heightOfBlocks();
        doneInOrder();
        Check.end();
    }

    private static LedgerMachine with(long balance) {
        LedgerMachine x = new LedgerMachine();
        x.endow(0, balance, -1);
        return x;
    }

    private static void ends(LedgerMachine x, int block, int... due) {
        for (int i = 0; i < due.length; i++) {
            Check.same("order " + i + " of " + block + " ends", x.receipt(block, i, 0), due[i]);
        }
    }

    /** "VOID .. if NONCE is not that of from": one less, one more, and as far as an int goes. */
    private static void voidByItsNonce() {
        LedgerMachine x = with(1000);
        int[] nonces = {1, -1, Integer.MAX_VALUE, Integer.MIN_VALUE, 0};
        for (int nonce : nonces) {
            x.order(0, 1, 0, 0, 25, 0, nonce);
        }
        x.block(0, 9);
        ends(x, 1, 0, 0, 0, 0, 1);
        for (int nonce : new int[] {0, 2, 1}) {
            x.order(0, 1, 0, 0, 25, 0, nonce);
        }
        x.block(1, 9);
        ends(x, 2, 0, 0, 1);
        Check.same("NONCE", x.leaf(2, 1), 2);
    }

    /** "from's NONCE is 1 more": at once, for each from its own, and however the ORDER ends. */
    private static void noncesInOneBlock() {
        Bench b = new Bench(Acts.row(Acts.PUSH, 0, Acts.REVERT), Acts.row(Acts.POP));
        b.x.order(0, 9, 0, 0, 25, 0, 0);
        b.x.order(0, 1, 0, 0, 50, 0, 1);
        b.x.order(0, 2, 0, 0, 50, 0, 2);
        b.x.order(3, 9, 0, 0, 25, 0, 0);
        b.x.order(0, 9, 0, 0, 25, 0, 2);
        b.x.order(0, 9, 0, 0, 25, 0, 3);
        b.x.block(0, 31);
        ends(b.x, 1, 1, 2, 3, 1, 0, 1);
        Check.same("NONCE of 0", b.x.leaf(1, 1), 4);
        Check.same("NONCE of 3", b.x.leaf(1, 97), 1);
        Check.same("NONCE of 1, which was CALLED", b.x.leaf(1, 33), 0);
    }

    /** "gas is below 25" */
    private static void voidByGasBelowTwentyFive() {
        LedgerMachine x = with(1000);
        for (int gas : new int[] {0, 1, 24, 25}) {
            x.order(0, 1, 0, 0, gas, 0, 0);
        }
        x.order(0, 1, 0, 0, 26, 0, 1);
        x.block(0, 9);
        ends(x, 1, 0, 0, 0, 1, 1);
    }

    /** "or above what is left of 30000 for the BLOCK" */
    private static void voidByGasAboveWhatIsLeft() {
        Bench b = new Bench(LOOP);
        b.order(1, 0, 0, 20000);
        b.x.order(0, 1, 0, 0, 10001, 0, 1);
        b.x.order(0, 1, 0, 0, 30000, 0, 1);
        b.x.order(0, 1, 0, 0, 10000, 0, 1);
        b.x.order(0, 9, 0, 0, 25, 0, 2);
        b.x.order(0, 9, 0, 0, 1, 0, 2);
        b.block();
        ends(b.x, 1, 3, 0, 0, 3, 0, 0);
        Check.same("gas of the BLOCK", b.x.told(1, 4), 30000);
    }

    private static void allThatIsLeft() {
        Bench b = new Bench(LOOP);
        b.order(1, 0, 0, 29975);
        b.x.order(0, 9, 0, 0, 26, 0, 1);
        b.x.order(0, 9, 0, 0, 25, 0, 1);
        b.x.order(0, 9, 0, 0, 25, 0, 2);
        b.block();
        ends(b.x, 1, 3, 0, 1, 0);
        Bench one = new Bench(LOOP).order(1, 0, 0, 30000).block();
        ends(one.x, 1, 3);
        Bench less = new Bench(LOOP);
        less.order(1, 0, 0, 29976);
        less.x.order(0, 9, 0, 0, 25, 0, 1);
        less.block();
        ends(less.x, 1, 3, 0);
    }

    /** "(gas of ORDERS is taken from that, less what was not used)" */
    private static void whatWasNotUsedIsLeft() {
        Bench b = new Bench(Acts.row(Acts.STOP));
        for (int i = 0; i < 8; i++) {
            b.order(1, 0, 0, 29000);
        }
        b.x.order(0, 1, 0, 0, 29801, 0, 8);
        b.x.order(0, 1, 0, 0, 29800, 0, 8);
        b.block();
        ends(b.x, 1, 1, 1, 1, 1, 1, 1, 1, 1, 0, 1);
        Check.same("gas of the BLOCK", b.x.told(1, 4), 9 * 25);
    }

    private static void whatIsGivenBackIsLeft() {
        Bench b = new Bench(Acts.join(Acts.store(0, 1), Acts.store(0, 0)));
        b.order(1, 0, 0, 29000);
        b.x.order(0, 1, 0, 0, 30000 - 93, 0, 1);
        b.x.order(0, 1, 0, 0, 30000 - 94, 0, 1);
        b.block();
        ends(b.x, 1, 1, 0, 1);
        Check.same("gas of the BLOCK", b.x.told(1, 4), 2 * 94);
    }

    private static void voidOnesTakeNothing() {
        Bench b = new Bench(LOOP);
        for (int i = 0; i < 9; i++) {
            b.x.order(0, 1, 0, 0, 30000, 0, 5);
        }
        b.order(1, 0, 0, 30000).block();
        ends(b.x, 1, 0, 0, 0, 0, 0, 0, 0, 0, 0, 3);
    }

    private static void eachBlockHasItsOwnGas() {
        Bench b = new Bench(LOOP).run(0, 0, 30000).run(0, 0, 30000);
        ends(b.x, 1, 3);
        ends(b.x, 2, 3);
    }

    /** "or gas times price and value together are above its BALANCE" */
    private static void voidByItsBalance() {
        LedgerMachine x = with(1000);
        x.order(0, 1, 1001, 0, 25, 0, 0);
        x.order(0, 1, 501, 0, 50, 10, 0);
        x.order(0, 1, 0, 0, 91, 11, 0);
        x.order(0, 1, 1, 0, 100, 10, 0);
        x.order(2, 1, 0, 0, 25, 1, 0);
        x.order(2, 1, 1, 0, 25, 0, 0);
        x.order(2, 1, 0, 0, 25, 0, 0);
        x.order(0, 1, 500, 0, 50, 10, 0);
        x.block(0, 5);
        ends(x, 1, 0, 0, 0, 0, 0, 0, 1, 1);
        Check.same("BALANCE of 0", x.leaf(1, 0), 1000 - 500 - 250);
        LedgerMachine all = with(1000);
        all.order(0, 1, 1000, 0, 25, 0, 0);
        all.block(0, 5);
        Check.same("all as value", all.leaf(1, 32), 1000);
        LedgerMachine gas = with(1000);
        gas.order(0, 1, 0, 0, 100, 10, 0);
        gas.block(0, 5);
        Check.same("all as gas", gas.leaf(1, 0), 750);
    }

    /** 30000 times 1000000 and 2^50 are far above an int, and do not wrap. */
    private static void voidByTheHighestPrice() {
        long price = 30000L * 1000000L;
        LedgerMachine x = with(price + 7);
        x.order(0, 1, 8, 0, 30000, 1000000, 0);
        x.order(0, 1, 1L << 50, 0, 30000, 1000000, 0);
        x.order(0, 1, 7, 0, 30000, 1000000, 0);
        x.block(0, 2);
        ends(x, 1, 0, 0, 1);
        Check.same("BALANCE of 0", x.leaf(1, 0), price - 25000000L);
        Check.same("BALANCE of the MAKER", x.leaf(1, 64), 25000000L);
        LedgerMachine less = with(price - 1);
        less.order(0, 1, 0, 0, 30000, 1000000, 0);
        less.block(0, 2);
        ends(less, 1, 0);
        LedgerMachine most = with(1L << 44);
        most.order(0, 1, (1L << 44) - price, 0, 30000, 1000000, 0);
        most.block(0, 2);
        ends(most, 1, 1);
    }

    /** The BALANCE is that which the ORDERS before it left. */
    private static void valueThatCameBefore() {
        LedgerMachine x = with(1000);
        x.order(1, 2, 300, 0, 25, 0, 0);
        x.order(0, 1, 300, 0, 25, 0, 0);
        x.order(1, 2, 301, 0, 25, 0, 0);
        x.order(1, 2, 300, 0, 25, 0, 0);
        x.block(0, 9);
        ends(x, 1, 0, 1, 0, 1);
        Check.same("BALANCE of 2", x.leaf(1, 64), 300);
    }

    /** "An ORDER is VOID, and does nothing" */
    private static void aVoidOneDoesNothing() {
        LedgerMachine x = with(1000);
        x.order(0, 1, 5, 0, 25, 0, 1);
        x.order(0, 1, 5, 0, 24, 3, 0);
        x.order(0, 1, 1001, 0, 25, 0, 0);
        long root = x.digest(0, 10, 0);
        x.block(0, 5);
        Check.same("the ROOT", x.digest(1, 10, 0), root);
        Check.same("gas of the BLOCK", x.told(1, 4), 0);
        for (int i = 0; i < 3; i++) {
            for (int what = 0; what < 3; what++) {
                Check.same("receipt of " + i, x.receipt(1, i, what), 0);
            }
        }
    }

    /** "25 of gas is used" */
    private static void twentyFiveOfGasIsUsed() {
        Bench b = new Bench(Acts.row(Acts.STOP));
        b.order(1, 0, 0, 25, 4).order(9, 0, 0, 30, 4).block();
        b.due("of 25", 0, 1, 25, 0);
        b.due("of 30, without a CODE", 1, 1, 25, 0);
        Check.same("BALANCE", b.balance(0), 1000000 - 200);
    }

    /** "the rest as gas": none with 25. */
    private static void theRestAsGas() {
        int[] octets = Acts.row(Acts.GAS, Acts.RETURN);
        new Bench(octets).run(0, 0, 25).due("25", 0, 3, 25, 0);
        new Bench(octets).run(0, 0, 26).due("26", 0, 1, 26, 0);
        new Bench(octets).run(0, 0, 30000).due("30000", 0, 1, 26, 29974);
    }

    /** "gas times price goes from its BALANCE", before the CALL moves the value. */
    private static void gasTimesPriceGoesFirst() {
        Bench b = new Bench(Acts.row(Acts.ORIGIN, Acts.BALANCE, Acts.RETURN));
        b.order(1, 10, 0, 500, 7).block();
        b.due("its BALANCE then", 0, 1, 31, 1000000 - 10 - 3500);
        Check.same("and in the end", b.balance(0), 1000000 - 10 - 31 * 7);
    }

    /** "what was not used, times price, goes to from's BALANCE, what was used to the MAKER's" */
    private static void whatWasUsedGoesToTheMaker() {
        for (int price : new int[] {0, 1, 7}) {
            Bench b = new Bench(Acts.row(Acts.ARGUMENT, Acts.RETURN));
            b.order(1, 10, 3, 500, price).block();
            Check.same("from", b.balance(0), 1000000 - 10 - 26 * price);
            Check.same("to", b.balance(1), 110);
            Check.same("MAKER", b.balance(31), 26 * price);
        }
    }

    private static void whatDoesNotEndWellPaysAsWell() {
        Bench b = new Bench(Acts.row(Acts.PUSH, 3, Acts.REVERT), LOOP);
        b.order(1, 10, 3, 500, 7).block();
        Check.same("UNDONE: from", b.balance(0), 1000000 - 26 * 7);
        Check.same("UNDONE: to", b.balance(1), 100);
        Check.same("UNDONE: MAKER", b.balance(31), 26 * 7);
        b.order(2, 10, 3, 500, 7).block();
        Check.same("BROKEN: from", b.balance(0), 1000000 - 526 * 7);
        Check.same("BROKEN: to", b.balance(2), 100);
        Check.same("BROKEN: MAKER", b.balance(31), 526 * 7);
    }

    private static void fromIsMakerAndTo() {
        LedgerMachine x = with(1000);
        x.order(0, 0, 700, 0, 100, 3, 0);
        x.order(0, 0, 701, 0, 100, 3, 1);
        x.block(0, 0);
        ends(x, 1, 1, 0);
        Check.same("all at once", x.leaf(1, 0), 1000);
        Check.same("NONCE", x.leaf(1, 1), 1);
    }

    /** "what is to be GIVEN BACK, but at most a fifth of what was used, counts as not used" */
    private static void atMostAFifth() {
        int[] sets = Acts.row();
        int[] clears = Acts.row();
        for (int cell = 0; cell < 6; cell++) {
            sets = Acts.join(sets, Acts.store(cell, 1));
            clears = Acts.join(clears, Acts.store(cell, 0));
        }
        for (int more = 0; more < 6; more++) {
            int[] ends = Acts.join(Acts.repeat(more, Acts.GAS), Acts.row(Acts.STOP));
            Bench b = new Bench(Acts.branch(Acts.row(Acts.ARGUMENT), sets, Acts.join(clears, ends)));
            b.order(1, 0, 1, 2000).block();
            b.order(1, 0, 0, 2000).block();
            int used = 25 + 3 + 6 * 22 + more;
            b.due("a fifth of " + used, 0, 1, used - (160 + more) / 5, 0);
        }
        fifth(69, 13);
        fifth(70, 14);
        fifth(74, 14);
        fifth(75, 15);
        fifth(76, 15);
        fifth(80, 15);
    }

    /** One CELL is cleared, 15 to GIVE BACK; with this much used in all this much counts as not used. */
    private static void fifth(int used, int back) {
        int[] clears = Acts.join(Acts.row(Acts.PUSH, 9), Acts.store(0, 0), Acts.repeat(used - 51, Acts.SWAP, 0),
                Acts.row(Acts.STOP));
        Bench b = new Bench(Acts.branch(Acts.row(Acts.ARGUMENT), Acts.store(0, 1), clears));
        b.order(1, 0, 1, 2000).block();
        b.order(1, 0, 0, 2000).block();
        b.due("15 with " + used, 0, 1, used - back, 0);
    }

    /** It is paid to from, and not to the MAKER. */
    private static void givenBackIsPaidBack() {
        Bench b = new Bench(Acts.join(Acts.store(0, 1), Acts.store(0, 0)));
        b.order(1, 0, 0, 900, 3).block();
        b.due("the ORDER", 0, 1, 25 + 84 - 15, 0);
        Check.same("from", b.balance(0), 1000000 - 3 * 94);
        Check.same("MAKER", b.balance(31), 3 * 94);
    }

    private static void nothingGivenBackWhenUndone() {
        int[] clears = Acts.join(Acts.store(0, 1), Acts.store(0, 0));
        Bench b = new Bench(Acts.join(clears, Acts.row(Acts.PUSH, 0, Acts.REVERT)), Acts.join(clears,
                Acts.row(Acts.POP)), Acts.row(Acts.STOP));
        b.order(1, 0, 0, 900).order(2, 0, 0, 900).order(3, 0, 0, 900).block();
        b.due("UNDONE", 0, 2, 25 + 85, 0);
        b.due("BROKEN", 1, 3, 900, 0);
        b.due("nor in the next ORDER", 2, 1, 25, 0);
    }

    /** "It ENDS WELL (1), UNDONE (2) or BROKEN (3); VOID is 0." */
    private static void howItEnds() {
        Bench b = new Bench(Acts.row(Acts.STOP), Acts.row(Acts.PUSH, 1, Acts.REVERT), Acts.row(Acts.POP));
        b.order(1, 0, 0, 100).order(2, 0, 0, 100).order(3, 0, 0, 100).order(1, 0, 0, 24).block();
        ends(b.x, 1, 1, 2, 3, 0);
    }

    /** "HEIGHT 1 more than its parent; BLOCK 0 has HEIGHT 0" */
    private static void heightOfBlocks() {
        Bench b = new Bench(Acts.row(Acts.HEIGHT, Acts.RETURN));
        int[] parents = {0, 0, 1, 3, 2, 0};
        int[] heights = {1, 1, 2, 3, 2, 1};
        Check.same("BLOCK 0", b.x.told(0, 1), 0);
        for (int i = 0; i < parents.length; i++) {
            b.x.order(0, 1, 0, 0, 100, 0, (int) b.x.leaf(parents[i], 1));
            int block = b.x.block(parents[i], 31);
            Check.same("told", b.x.told(block, 1), heights[i]);
            Check.same("in its ORDER", b.x.receipt(block, 0, 2), heights[i]);
        }
    }

    /** "Its STATE is its parent's, with its ORDERS done in order" */
    private static void doneInOrder() {
        int[] appends = Acts.row(Acts.PUSH, 0, Acts.DUP, 0, Acts.LOAD, Acts.PUSH, 10, Acts.MUL, Acts.ARGUMENT,
                Acts.ADD, Acts.STORE);
        Bench b = new Bench(appends);
        for (int i = 1; i <= 9; i++) {
            b.order(1, 0, i, 200);
        }
        b.order(1, 0, 0, 200).block();
        Check.same("CELL 0", b.cell(1, 0), 1234567890L);
    }
}
