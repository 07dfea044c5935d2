/** Promise 6: order. OrdersTest tells how orders are done. */
public final class P06OrderTest {
    private static final long VALUE = 1L << 50;

    public static void main(String[] args) {
        toWhomHowMuchWithWhichArgument();
        howManyThereAre();
        noSuchAccount();
        valueIsZeroToTheMost();
        gasIsZeroToTheMost();
        priceIsZeroToTheMost();
        argumentAndNonceAreAny();
        thereAreTen();
        theOneNamedFirst();
        whatIsRefusedIsNotDrafted();
        Check.end();
    }

    /** "An ORDER is drafted: to whom, how much, with which ARGUMENT." */
    private static void toWhomHowMuchWithWhichArgument() {
        Bench b = new Bench(Acts.row(Acts.ARGUMENT, Acts.RETURN));
        b.order(1, 7, -9, 100).block();
        b.due("the order", 0, 1, 26, -9);
        Check.same("to whom", b.balance(1), 107);
        Check.same("from whom", b.balance(0), 1000000 - 7);
    }

    /** "Answers how many there are.": up to 10, and anew behind a BLOCK. */
    private static void howManyThereAre() {
        LedgerMachine x = new LedgerMachine();
        for (int block = 1; block <= 2; block++) {
            for (int many = 1; many <= 10; many++) {
                Check.same("order", x.order(0, 1, 0, 0, 25, 0, 0), many);
            }
            x.block(0, 0);
            Check.same("ORDERS of the BLOCK", x.told(block, 2), 10);
        }
    }

    /** "IndexOutOfBoundsException: there is no such ACCOUNT." */
    private static void noSuchAccount() {
        LedgerMachine x = new LedgerMachine();
        for (int account : Check.outside(0, 31)) {
            Check.refuses("from " + account, Check.INDEX, () -> x.order(account, 0, 0, 0, 25, 0, 0));
            Check.refuses("to " + account, Check.INDEX, () -> x.order(0, account, 0, 0, 25, 0, 0));
        }
        Check.same("from 0 to 31", x.order(0, 31, 0, 0, 25, 0, 0), 1);
        Check.same("from 31 to 0", x.order(31, 0, 0, 0, 25, 0, 0), 2);
        Check.same("to itself", x.order(31, 31, 0, 0, 25, 0, 1), 3);
        x.block(0, 0);
        for (int i = 0; i < 3; i++) {
            Check.same("order " + i + " ends", x.receipt(1, i, 0), 1);
        }
    }

    /** "IllegalArgumentException: value is not 0 to 2^50" */
    private static void valueIsZeroToTheMost() {
        LedgerMachine x = new LedgerMachine();
        for (long value : Check.outside(0, VALUE)) {
            Check.refuses("value " + value, Check.ARGUMENT, () -> x.order(0, 1, value, 0, 25, 0, 0));
        }
        Check.same("value 0", x.order(0, 1, 0, 0, 25, 0, 0), 1);
        Check.same("value 2^50", x.order(0, 1, VALUE, 0, 25, 0, 0), 2);
    }

    /** "gas not 0 to 30000" */
    private static void gasIsZeroToTheMost() {
        LedgerMachine x = new LedgerMachine();
        for (int gas : Check.outside(0, 30000)) {
            Check.refuses("gas " + gas, Check.ARGUMENT, () -> x.order(0, 1, 0, 0, gas, 0, 0));
        }
        Check.same("gas 0", x.order(0, 1, 0, 0, 0, 0, 0), 1);
        Check.same("gas 30000", x.order(0, 1, 0, 0, 30000, 0, 0), 2);
    }

    /** "price not 0 to 1000000" */
    private static void priceIsZeroToTheMost() {
        LedgerMachine x = new LedgerMachine();
        for (int price : Check.outside(0, 1000000)) {
            Check.refuses("price " + price, Check.ARGUMENT, () -> x.order(0, 1, 0, 0, 25, price, 0));
        }
        Check.same("price 0", x.order(0, 1, 0, 0, 25, 0, 0), 1);
        Check.same("price 1000000", x.order(0, 1, 0, 0, 25, 1000000, 0), 2);
    }

    /** No bound is told for these: none is refused. */
    private static void argumentAndNonceAreAny() {
        Bench b = new Bench(Acts.row(Acts.ARGUMENT, Acts.RETURN));
        b.order(1, 0, Long.MIN_VALUE, 100).order(1, 0, Long.MAX_VALUE, 100);
        for (int nonce : new int[] {-1, Integer.MIN_VALUE, Integer.MAX_VALUE}) {
            b.x.order(0, 1, 0, 0, 100, 0, nonce);
        }
        b.block();
        b.due("the least ARGUMENT", 0, 1, 26, Long.MIN_VALUE);
        b.due("the highest ARGUMENT", 1, 1, 26, Long.MAX_VALUE);
        for (int i = 2; i < 5; i++) {
            Check.same("another NONCE is VOID", b.ending(i), 0);
        }
    }

    /** "IllegalStateException: there are 10." */
    private static void thereAreTen() {
        Bench b = new Bench(Acts.row(Acts.STOP));
        for (int many = 1; many <= 10; many++) {
            b.order(1, 1, 0, 25);
        }
        Check.refuses("an eleventh", Check.STATE, () -> b.x.order(0, 1, 1, 0, 25, 0, 10));
        Check.refuses("and again", Check.STATE, () -> b.x.order(0, 1, 1, 0, 25, 0, 10));
        b.block();
        Check.same("ORDERS", b.x.told(1, 2), 10);
        Check.same("the tenth was done", b.ending(9), 1);
        Check.same("and no other", b.balance(1), 110);
        Check.same("anew", b.x.order(0, 1, 1, 0, 25, 0, 10), 1);
    }

    private static void theOneNamedFirst() {
        LedgerMachine x = new LedgerMachine();
        firstOfTwo(x);
        for (int i = 0; i < 10; i++) {
            x.order(0, 1, 0, 0, 25, 0, 0);
        }
        firstOfTwo(x);
        Check.refuses("from, with ten", Check.INDEX, () -> x.order(-1, 1, 0, 0, 25, 0, 0));
        Check.refuses("to, with ten", Check.INDEX, () -> x.order(0, 32, 0, 0, 25, 0, 0));
        Check.refuses("value, with ten", Check.ARGUMENT, () -> x.order(0, 1, -1, 0, 25, 0, 0));
        Check.refuses("gas, with ten", Check.ARGUMENT, () -> x.order(0, 1, 0, 0, 30001, 0, 0));
        Check.refuses("price, with ten", Check.ARGUMENT, () -> x.order(0, 1, 0, 0, 25, 1000001, 0));
    }

    private static void firstOfTwo(LedgerMachine x) {
        Check.refuses("from and value", Check.INDEX, () -> x.order(32, 1, -1, 0, 25, 0, 0));
        Check.refuses("to and value", Check.INDEX, () -> x.order(0, -1, VALUE + 1, 0, 25, 0, 0));
        Check.refuses("from and gas", Check.INDEX, () -> x.order(-1, 1, 0, 0, 30001, 0, 0));
        Check.refuses("to and gas", Check.INDEX, () -> x.order(0, 32, 0, 0, -1, 0, 0));
        Check.refuses("from and price", Check.INDEX, () -> x.order(32, 1, 0, 0, 25, -1, 0));
        Check.refuses("to and price", Check.INDEX, () -> x.order(0, 32, 0, 0, 25, 1000001, 0));
    }

    private static void whatIsRefusedIsNotDrafted() {
        LedgerMachine x = new LedgerMachine();
        x.order(0, 1, 0, 0, 25, 0, 0);
        Check.refuses("to 32", Check.INDEX, () -> x.order(0, 32, 0, 0, 25, 0, 1));
        Check.refuses("gas -1", Check.ARGUMENT, () -> x.order(0, 1, 0, 0, -1, 0, 1));
        x.block(0, 0);
        Check.same("ORDERS", x.told(1, 2), 1);
        Check.same("NONCE", x.leaf(1, 1), 1);
    }
}
