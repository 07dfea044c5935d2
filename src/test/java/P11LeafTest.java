/** Promise 11: leaf. */
public final class P11LeafTest {
    public static void main(String[] args) {
        theValueOfALeaf();
        ofEachBlockItsOwn();
        noSuchBlock();
        noSuchLeaf();
        Check.end();
    }

    /** All LEAVES of an ACCOUNT that has some of everything. */
    private static void theValueOfALeaf() {
        int[] stores = Acts.join(Acts.store(0, -7), Acts.store(15, 8), Acts.row(Acts.PUSH, 3, Acts.ARGUMENT, Acts.STORE));
        Bench b = new Bench(stores);
        b.order(1, 5, Long.MIN_VALUE, 1000).order(1, 6, Long.MAX_VALUE, 1000).block();
        long[] due = new long[32];
        due[0] = 111;
        due[2] = 1;
        due[16] = -7;
        due[31] = 8;
        due[19] = Long.MAX_VALUE;
        for (int part = 0; part < 32; part++) {
            Check.same("leaf(0, " + (32 + part) + ")", b.x.leaf(0, 32 + part), part == 0 ? 100 : part == 2 ? 1 : 0);
            Check.same("leaf(1, " + (32 + part) + ")", b.x.leaf(1, 32 + part), due[part]);
        }
        Check.same("BALANCE of 0", b.x.leaf(1, 0), 1000000 - 11);
        Check.same("NONCE of 0", b.x.leaf(1, 1), 2);
        Check.same("CODE of 0", b.x.leaf(1, 2), 0);
    }

    private static void ofEachBlockItsOwn() {
        Bench b = new Bench(Acts.row(Acts.PUSH, 0, Acts.ARGUMENT, Acts.STORE));
        for (int i = 1; i <= 3; i++) {
            b.run(1, 10 * i, 1000);
        }
        for (int block = 0; block <= 3; block++) {
            Check.same("CELL 0 in " + block, b.x.leaf(block, 48), 10 * block);
            Check.same("BALANCE in " + block, b.x.leaf(block, 32), 100 + block);
        }
    }

    private static void noSuchBlock() {
        Bench b = new Bench(Acts.row(Acts.STOP)).block();
        for (int block : Check.outside(0, 1)) {
            Check.refuses("block " + block, Check.INDEX, () -> b.x.leaf(block, 0));
        }
    }

    private static void noSuchLeaf() {
        Bench b = new Bench(Acts.store(15, 9));
        b.x.endow(31, 7, 0);
        b.order(31, 0, 0, 1000).block();
        for (int leaf : Check.outside(0, 1023)) {
            Check.refuses("leaf " + leaf, Check.INDEX, () -> b.x.leaf(1, leaf));
        }
        Check.same("the first", b.x.leaf(1, 0), 1000000);
        Check.same("the last", b.x.leaf(1, 1023), 9);
    }
}
