/** Terms, 1 STATES: ACCOUNTS, LEAVES and DIGESTS. */
public final class StatesTest {
    private static final int[] MAKES = Acts.row(Acts.PUSH, 0, Acts.PUSH, 0, Acts.MAKE, Acts.RETURN);

    public static void main(String[] args) {
        accountsAreZeroToThirtyOne();
        balancesGoDownToZero();
        codesAreZeroToFifteen();
        cellsAreZeroToFifteen();
        emptyAtFirst();
        aBalanceIsNotEmpty();
        aNonceIsNotEmpty();
        aCodeIsNotEmpty();
        aCellIsNotEmpty();
        emptyAgain();
        allBalancesTogether();
        leavesOfAnAccount();
        digestOfALeaf();
        digestOfAnEmptyLeaf();
        leafWhoseMixIsZero();
        digestOfTwo();
        twoWhoseMixIsZero();
        eachNodeOfEachLevel();
        Check.end();
    }

    /** "ACCOUNTS are 0 .. 31." */
    private static void accountsAreZeroToThirtyOne() {
        LedgerMachine x = new LedgerMachine();
        Acts.code(x, Acts.SELF, Acts.RETURN);
        for (int account = 0; account < 32; account++) {
            x.endow(account, 100 + account, 0);
        }
        for (int account = 0; account < 32; account++) {
            Check.same("BALANCE of " + account, x.leaf(0, 32 * account), 100 + account);
            Check.same("view at " + account, x.view(0, 31 - account, account, 0, 10), account);
        }
        x.order(31, 0, 131, 0, 30, 0, 0);
        x.order(0, 31, 231, 0, 30, 0, 0);
        x.block(0, 31);
        Check.same("from 31 to 0", x.receipt(1, 0, 2), 0);
        Check.same("from 0 to 31", x.receipt(1, 1, 2), 31);
        Check.same("BALANCE of 31", x.leaf(1, 31 * 32), 231);
    }

    /** "a BALANCE (0 or more)" */
    private static void balancesGoDownToZero() {
        LedgerMachine x = new LedgerMachine();
        x.endow(0, 100, -1);
        x.order(0, 1, 101, 0, 25, 0, 0);
        x.order(0, 1, 100, 0, 25, 0, 0);
        x.order(0, 1, 1, 0, 25, 0, 1);
        x.order(0, 1, 0, 0, 25, 0, 1);
        x.block(0, 9);
        long[] ends = {0, 1, 0, 1};
        for (int i = 0; i < 4; i++) {
            Check.same("order " + i, x.receipt(1, i, 0), ends[i]);
        }
        Check.same("BALANCE of 0", x.leaf(1, 0), 0);
        Check.same("BALANCE of 1", x.leaf(1, 32), 100);
    }

    /** "a CODE (0 .. 15, or none)" */
    private static void codesAreZeroToFifteen() {
        LedgerMachine x = new LedgerMachine();
        for (int code = 0; code < 16; code++) {
            Acts.code(x, Acts.PUSH, 70 + code, Acts.RETURN);
            x.endow(code, 0, code);
        }
        x.endow(16, 5, -1);
        for (int code = 0; code < 16; code++) {
            Check.same("LEAF of CODE " + code, x.leaf(0, 32 * code + 2), code + 1);
            Check.same("what it runs", x.view(0, 20, code, 0, 10), 70 + code);
        }
        Check.same("LEAF of none", x.leaf(0, 32 * 16 + 2), 0);
        Check.same("what it runs", x.view(0, 20, 16, 0, 10), 0);
    }

    /** "CELLS 0 .. 15" */
    private static void cellsAreZeroToFifteen() {
        int[] stores = Acts.row();
        for (int cell = 0; cell < 16; cell++) {
            stores = Acts.join(stores, Acts.store(cell, 20 + cell));
        }
        Bench b = new Bench(stores, Acts.row(Acts.STOP)).run(0, 0, 2000);
        for (int cell = 0; cell < 16; cell++) {
            Check.same("CELL " + cell, b.cell(1, cell), 20 + cell);
            Check.same("CELL " + cell + " of another", b.cell(0, cell) + b.cell(2, cell), 0);
        }
        Check.same("CODE behind them", b.codeOf(2), 1);
    }

    /** Which ACCOUNT the maker, 5, gets for an order of 6; 9 makes the BLOCK. */
    private static long made(LedgerMachine x, int parent) {
        x.order(6, 5, 0, 0, 900, 0, (int) x.leaf(parent, 193));
        int block = x.block(parent, 9);
        return x.receipt(block, 0, 2);
    }

    private static LedgerMachine withMaker() {
        LedgerMachine x = new LedgerMachine();
        Acts.code(x, MAKES);
        x.endow(5, 0, 0);
        return x;
    }

    /** "It is EMPTY when all of these are 0, or none." MAKE takes the least that is. */
    private static void emptyAtFirst() {
        Check.same("0 is EMPTY", made(withMaker(), 0), 0);
    }

    private static void aBalanceIsNotEmpty() {
        LedgerMachine x = withMaker();
        x.endow(0, 1, -1);
        Check.same("0 has a BALANCE", made(x, 0), 1);
    }

    private static void aNonceIsNotEmpty() {
        LedgerMachine x = withMaker();
        x.order(0, 1, 0, 0, 25, 0, 0);
        x.block(0, 9);
        Check.same("0 has a NONCE", made(x, 1), 1);
    }

    private static void aCodeIsNotEmpty() {
        LedgerMachine x = withMaker();
        x.endow(0, 0, 0);
        Check.same("0 has a CODE", made(x, 0), 1);
    }

    /** An ACCOUNT that CLOSES within its own CALL and STORES then has a CELL and nothing else. */
    private static void aCellIsNotEmpty() {
        for (int cell = 0; cell < 16; cell++) {
            int[] closes = Acts.row(Acts.PUSH, 6, Acts.CLOSE);
            int[] stores = Acts.join(Acts.row(Acts.GAS, Acts.PUSH, 1, Acts.PUSH, 0, Acts.SELF, Acts.CALL),
                    Acts.store(cell, 1), Acts.row(Acts.STOP));
            LedgerMachine x = withMaker();
            int code = Acts.code(x, Acts.branch(Acts.row(Acts.ARGUMENT), closes, stores));
            x.endow(0, 0, code);
            x.order(6, 0, 0, 0, 900, 0, 0);
            x.block(0, 9);
            Check.same("its CODE is none", x.leaf(1, 2), 0);
            Check.same("its CELL", x.leaf(1, 16 + cell), 1);
            Check.same("0 has CELL " + cell, made(x, 1), 1);
        }
    }

    private static void emptyAgain() {
        LedgerMachine x = withMaker();
        int code = Acts.code(x, Acts.join(Acts.store(0, 1), Acts.store(15, 1), Acts.row(Acts.PUSH, 6, Acts.CLOSE)));
        x.endow(0, 40, code);
        Check.same("before", made(x, 0), 1);
        x.order(6, 0, 0, 0, 900, 0, 0);
        int closed = x.block(0, 9);
        Check.same("behind its CLOSE", made(x, closed), 0);
    }

    /** "All BALANCES together are below 2^50.": all that can be, in one ACCOUNT. */
    private static void allBalancesTogether() {
        LedgerMachine x = new LedgerMachine();
        for (int account = 0; account < 32; account++) {
            x.endow(account, 1L << 44, -1);
        }
        int block = 0;
        for (int account = 1; account < 32; account++) {
            x.order(account, 0, 1L << 44, 0, 25, 0, 0);
            if (account % 10 == 0 || account == 31) {
                block = x.block(block, 0);
            }
        }
        Check.same("all of it", x.leaf(block, 0), 1L << 49);
        x.order(0, 7, (1L << 49) + 1, 0, 25, 0, 0);
        x.order(0, 7, 1L << 49, 0, 25, 0, 0);
        block = x.block(block, 0);
        Check.same("one more is VOID", x.receipt(block, 0, 0), 0);
        Check.same("all at once", x.leaf(block, 7 * 32), 1L << 49);
        Check.same("nothing is left", x.leaf(block, 0), 0);
    }

    /** "32 a is its BALANCE, 32 a + 1 its NONCE, 32 a + 2 its CODE's number and 1 more, ..; all others are 0." */
    private static void leavesOfAnAccount() {
        for (int account : new int[] {0, 1, 30, 31}) {
            LedgerMachine x = new LedgerMachine();
            int[] octets = Acts.row();
            for (int cell = 0; cell < 16; cell++) {
                octets = Acts.join(octets, Acts.store(cell, 40 + cell));
            }
            Acts.code(x, octets);
            x.endow(account, 1000, 0);
            x.order(account, account, 0, 0, 2000, 0, 0);
            x.block(0, 9);
            for (int part = 0; part < 32; part++) {
                long due = part == 0 ? 1000 : part < 3 ? 1 : part < 16 ? 0 : 24 + part;
                Check.same("LEAF " + part + " of " + account, x.leaf(1, 32 * account + part), due);
            }
        }
    }

    /** A state whose account 1 has these values in CELLS 0, 1. */
    private static LedgerMachine cells(long first, long second) {
        int[] octets = Acts.join(Acts.row(Acts.PUSH, 0), Acts.big(first), Acts.row(Acts.STORE, Acts.PUSH, 1),
                Acts.big(second), Acts.row(Acts.STORE));
        return new Bench(octets).run(0, 0, 1000).x;
    }

    /** "else MIX(p + 1, v)" */
    private static void digestOfALeaf() {
        for (long value : new long[] {1, 2, -1, 1L << 40, 1L << 41, Long.MIN_VALUE, Long.MAX_VALUE}) {
            LedgerMachine x = cells(value, 0);
            Check.same("LEAF 48 = " + value, x.digest(1, 0, 48), Digests.mix(49, value));
        }
        LedgerMachine x = new LedgerMachine();
        x.endow(0, 9, -1);
        Check.same("LEAF 0", x.digest(0, 0, 0), Digests.mix(1, 9));
    }

    /** "0 if v is 0" */
    private static void digestOfAnEmptyLeaf() {
        LedgerMachine x = cells(1, 0);
        Check.same("LEAF 49", x.digest(1, 0, 49), 0);
        Check.same("LEAF 1023", x.digest(1, 0, 1023), 0);
    }

    /** "or 1 where that is 0" */
    private static void leafWhoseMixIsZero() {
        long value = Digests.valueFor(48, 0);
        Check.same("MIX", Digests.mix(49, value), 0);
        LedgerMachine x = cells(value, 0);
        Check.same("the CELL", x.leaf(1, 48), value);
        Check.same("its DIGEST", x.digest(1, 0, 48), 1);
        Check.same("above it", x.digest(1, 1, 24), Digests.mix(1, 0));
    }

    /** "0 if both are 0, else MIX(l, r)": the left one alone, the right one alone, and both. */
    private static void digestOfTwo() {
        long left = Digests.mix(49, 5);
        long right = Digests.mix(50, 6);
        Check.same("neither", cells(0, 0).digest(1, 1, 24), 0);
        Check.same("the left one", cells(5, 0).digest(1, 1, 24), Digests.mix(left, 0));
        Check.same("the right one", cells(0, 6).digest(1, 1, 24), Digests.mix(0, right));
        Check.same("both", cells(5, 6).digest(1, 1, 24), Digests.mix(left, right));
    }

    /** "or 1 where that is 0": a left LEAF whose DIGEST makes it so with the right one. */
    private static void twoWhoseMixIsZero() {
        long right = Digests.mix(50, 6);
        long left = Digests.leftForZero(right);
        long value = Digests.valueFor(48, left);
        Check.same("the left DIGEST", Digests.mix(49, value), left);
        Check.same("MIX of both", Digests.mix(left, right), 0);
        LedgerMachine x = cells(value, 6);
        Check.same("LEVEL 1", x.digest(1, 1, 24), 1);
        Check.same("LEVEL 2", x.digest(1, 2, 12), Digests.mix(1, 0));
    }

    /** "node i of a LEVEL is that of nodes 2 i and 2 i + 1 below it": 2047 nodes, some of them on each object. */
    private static void eachNodeOfEachLevel() {
        for (int part = 0; part < 8; part++) {
            LedgerMachine x = new LedgerMachine();
            long[] leaves = new long[1024];
            for (int account = 0; account < 32; account++) {
                x.endow(account, 3 + 7 * account, -1);
                leaves[32 * account] = 3 + 7 * account;
            }
            int count = 0;
            for (int level = 0; level <= 10; level++) {
                for (int i = 0; i < 1024 >> level; i++) {
                    if (count % 8 == part) {
                        Check.same("digest(0, " + level + ", " + i + ")", x.digest(0, level, i), Digests.node(leaves,
                                level, i));
                    }
                    count++;
                }
            }
        }
    }
}
