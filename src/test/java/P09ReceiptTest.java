/** Promise 9: receipt. */
public final class P09ReceiptTest {
    public static void main(String[] args) {
        howItEnds();
        aVoidOne();
        whatItEndedWith();
        allGasAndNone();
        tenOrders();
        ofEachBlockItsOwn();
        noSuchBlock();
        noSuchOrder();
        noOrdersAtAll();
        noSuchWhat();
        Check.end();
    }

    private static Bench bench() {
        return new Bench(
                Acts.row(Acts.ARGUMENT, Acts.RETURN),
                Acts.row(Acts.ARGUMENT, Acts.REVERT),
                Acts.row(Acts.PUSH, 7, Acts.POP, Acts.POP),
                Acts.row(Acts.PUSH, 7, Acts.STOP));
    }

    /** "how it ENDS (what = 0), the gas that was used (1), what it ended with (2)" */
    private static void howItEnds() {
        Bench b = bench();
        b.order(1, 0, -5, 100).order(2, 0, 6, 100).order(3, 0, 0, 100).order(9, 0, 3, 100).order(4, 0, 3, 100).block();
        b.due("WELL", 0, 1, 26, -5);
        b.due("UNDONE", 1, 2, 26, 6);
        b.due("BROKEN", 2, 3, 100, 0);
        b.due("without a CODE", 3, 1, 25, 0);
        b.due("STOP", 4, 1, 26, 0);
    }

    /** "(1; 0 of a VOID one)": all of it is 0, also between others. */
    private static void aVoidOne() {
        Bench b = bench();
        b.order(1, 0, 8, 100);
        b.x.order(0, 1, 0, 9, 24, 0, 1);
        b.x.order(0, 1, 0, 9, 100, 0, 7);
        b.order(2, 0, 8, 100).block();
        b.due("before them", 0, 1, 26, 8);
        b.due("too little gas", 1, 0, 0, 0);
        b.due("another NONCE", 2, 0, 0, 0);
        b.due("behind them", 3, 2, 26, 8);
    }

    private static void whatItEndedWith() {
        Bench b = bench();
        b.order(1, 0, Long.MIN_VALUE, 100).order(1, 0, Long.MAX_VALUE, 100);
        b.order(2, 0, Long.MIN_VALUE, 100).order(2, 0, Long.MAX_VALUE, 100).block();
        b.due("RETURN of the least", 0, 1, 26, Long.MIN_VALUE);
        b.due("RETURN of the highest", 1, 1, 26, Long.MAX_VALUE);
        b.due("REVERT of the least", 2, 2, 26, Long.MIN_VALUE);
        b.due("REVERT of the highest", 3, 2, 26, Long.MAX_VALUE);
    }

    private static void allGasAndNone() {
        Bench b = new Bench(Acts.row(Acts.JUMP, 0));
        b.order(9, 0, 0, 25).block();
        b.due("25 of 25", 0, 1, 25, 0);
        b.order(1, 0, 0, 30000).block();
        b.due("all of 30000", 0, 3, 30000, 0);
    }

    private static void tenOrders() {
        Bench b = bench();
        for (int i = 0; i < 10; i++) {
            b.order(1, 0, 100 + i, 50);
        }
        b.block();
        for (int i = 0; i < 10; i++) {
            b.due("order " + i, i, 1, 26, 100 + i);
        }
        Check.refuses("an eleventh", Check.INDEX, () -> b.x.receipt(1, 10, 0));
    }

    private static void ofEachBlockItsOwn() {
        Bench b = bench().order(1, 0, 7, 100).order(2, 0, 8, 90).block().order(2, 0, 9, 80).block();
        b.due("of the second", 0, 2, 26, 9);
        Check.same("of the first", b.x.receipt(1, 0, 2), 7);
        Check.same("of the first", b.x.receipt(1, 1, 2), 8);
        Check.refuses("the second has one", Check.INDEX, () -> b.x.receipt(2, 1, 0));
    }

    private static void noSuchBlock() {
        Bench b = bench().order(1, 0, 0, 100).block();
        for (int block : Check.outside(0, 1)) {
            Check.refuses("block " + block, Check.INDEX, () -> b.x.receipt(block, 0, 0));
        }
    }

    private static void noSuchOrder() {
        Bench b = bench().order(1, 0, 0, 100).order(1, 0, 0, 100).block();
        for (int i : Check.outside(0, 1)) {
            Check.refuses("order " + i, Check.INDEX, () -> b.x.receipt(1, i, 0));
        }
        Check.same("the last", b.x.receipt(1, 1, 0), 1);
    }

    private static void noOrdersAtAll() {
        Bench b = bench().block().order(1, 0, 0, 100).block();
        Check.refuses("of BLOCK 0", Check.INDEX, () -> b.x.receipt(0, 0, 0));
        Check.refuses("of a BLOCK without any", Check.INDEX, () -> b.x.receipt(1, 0, 0));
        Check.same("of another", b.x.receipt(2, 0, 0), 1);
        b.order(1, 0, 0, 100);
        Check.refuses("one that is drafted", Check.INDEX, () -> b.x.receipt(2, 1, 0));
    }

    private static void noSuchWhat() {
        Bench b = bench().order(1, 0, 0, 100).order(1, 0, 0, 100).block();
        for (int i = 0; i < 2; i++) {
            int of = i;
            for (int what : Check.outside(0, 2)) {
                Check.refuses("what " + what, Check.INDEX, () -> b.x.receipt(1, of, what));
            }
        }
    }
}
