/**
 * A ledger for trying codes: account 0 has a million and no code, account 1 + n has 100 and the n-th code.
 * Orders come from account 0 and cost nothing, if nothing else is told; blocks are made by account 31.
 */
final class Bench {
    final LedgerMachine x = new LedgerMachine();
    private int nonce;
    private int orders;
    private int block;

    Bench(int[]... codes) {
        x.endow(0, 1000000, -1);
        for (int[] octets : codes) {
            int number = Acts.code(x, octets);
            if (number < 0) {
                throw new IllegalStateException("the test's code has a fault at " + (-2 - number));
            }
            x.endow(1 + number, 100, number);
        }
    }

    Bench order(int to, long value, long argument, int gas) {
        return order(to, value, argument, gas, 0);
    }

    Bench order(int to, long value, long argument, int gas, int price) {
        x.order(0, to, value, argument, gas, price, nonce);
        nonce++;
        orders++;
        return this;
    }

    Bench block() {
        block = x.block(block, 31);
        orders = 0;
        return this;
    }

    /** One order at account 1 in a block of its own. */
    Bench run(long value, long argument, int gas) {
        return order(1, value, argument, gas).block();
    }

    int ending(int i) {
        return (int) x.receipt(block, i, 0);
    }

    long used(int i) {
        return x.receipt(block, i, 1);
    }

    long answer(int i) {
        return x.receipt(block, i, 2);
    }

    int number() {
        return block;
    }

    long balance(int account) {
        return x.leaf(block, 32 * account);
    }

    long codeOf(int account) {
        return x.leaf(block, 32 * account + 2) - 1;
    }

    long cell(int account, int k) {
        return x.leaf(block, 32 * account + 16 + k);
    }

    int events() {
        return x.told(block, 3);
    }

    void due(String what, int i, int ending, long used, long answer) {
        Check.same(what + ": how it ends", ending(i), ending);
        Check.same(what + ": the gas that was used", used(i), used);
        Check.same(what + ": what it ended with", answer(i), answer);
    }
}
