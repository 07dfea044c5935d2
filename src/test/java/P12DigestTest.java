/** Promise 12: digest. StatesTest tells what DIGESTS are. */
public final class P12DigestTest {
    public static void main(String[] args) {
        eachLevel();
        ofEachBlockItsOwn();
        noSuchBlock();
        noSuchLevel();
        noSuchNode();
        Check.end();
    }

    /** "The DIGEST of node i of a LEVEL": the first and the last node of each. */
    private static void eachLevel() {
        LedgerMachine x = new LedgerMachine();
        Acts.code(x, Acts.store(15, 6));
        x.endow(0, 50, -1);
        x.endow(31, 3, 0);
        x.order(0, 31, 0, 0, 500, 0, 0);
        x.block(0, 1);
        long[] leaves = new long[1024];
        leaves[0] = 50;
        leaves[1] = 1;
        leaves[992] = 3;
        leaves[994] = 1;
        leaves[1023] = 6;
        for (int level = 0; level <= 10; level++) {
            int last = (1024 >> level) - 1;
            Check.same("digest(1, " + level + ", 0)", x.digest(1, level, 0), Digests.node(leaves, level, 0));
            Check.same("digest(1, " + level + ", " + last + ")", x.digest(1, level, last), Digests.node(leaves, level,
                    last));
            Check.same("some node is not 0", x.digest(1, level, last) != 0, true);
        }
    }

    private static void ofEachBlockItsOwn() {
        LedgerMachine x = new LedgerMachine();
        Check.same("the ROOT of nothing", x.digest(0, 10, 0), 0);
        x.endow(1, 50, -1);
        Check.same("a LEAF, as the shared tests tell it", x.digest(0, 0, 32), -9037326958337309043L);
        long before = x.digest(0, 10, 0);
        x.order(1, 2, 7, 0, 25, 0, 0);
        x.block(0, 0);
        Check.same("BLOCK 0 is as it was", x.digest(0, 10, 0), before);
        Check.same("BLOCK 1 is not", x.digest(1, 10, 0) != before, true);
        x.block(0, 0);
        Check.same("a BLOCK without ORDERS is as its parent", x.digest(2, 10, 0), before);
    }

    private static void noSuchBlock() {
        LedgerMachine x = new LedgerMachine();
        x.block(0, 0);
        for (int block : Check.outside(0, 1)) {
            Check.refuses("block " + block, Check.INDEX, () -> x.digest(block, 0, 0));
        }
    }

    private static void noSuchLevel() {
        LedgerMachine x = new LedgerMachine();
        for (int level : Check.outside(0, 10)) {
            Check.refuses("level " + level, Check.INDEX, () -> x.digest(0, level, 0));
        }
        Check.refuses("level 32", Check.INDEX, () -> x.digest(0, 32, 0));
        Check.refuses("level 42", Check.INDEX, () -> x.digest(0, 42, 0));
    }

    /** A LEVEL has 1024, 512, .. 1 nodes. */
    private static void noSuchNode() {
        LedgerMachine x = new LedgerMachine();
        for (int level = 0; level <= 10; level++) {
            int at = level;
            int nodes = 1024 >> level;
            Check.same("the last node of " + level, x.digest(0, level, nodes - 1), 0);
            for (int i : Check.outside(0, nodes - 1)) {
                Check.refuses("node " + i + " of " + level, Check.INDEX, () -> x.digest(0, at, i));
            }
        }
    }
}
