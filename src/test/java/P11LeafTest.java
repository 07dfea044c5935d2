/** Promise 11: leaf. */
public final class P11LeafTest {
    public static void main(String[] args) {
        int[] stores = Acts.join(Acts.store(0, -7), Acts.store(15, 8), Acts.row(Acts.PUSH, 3, Acts.GAS, Acts.STORE));
        Bench b = new Bench(stores);
        b.order(1, 5, 0, 1000).order(1, 6, 0, 1000).block();
        long[] due = new long[32];
        due[0] = 111;
        due[2] = 1;
        due[16] = -7;
        due[31] = 8;
        due[19] = 1000 - 25 - 22 - 22 - 2;
        for (int part = 0; part < 32; part++) {
            Check.same("leaf(0, " + (32 + part) + ")", b.x.leaf(0, 32 + part), part == 0 ? 100 : part == 2 ? 1 : 0);
            Check.same("leaf(1, " + (32 + part) + ")", b.x.leaf(1, 32 + part), due[part]);
        }
        Check.same("BALANCE of 0", b.x.leaf(1, 0), 1000000 - 11);
        Check.same("NONCE of 0", b.x.leaf(1, 1), 2);
        Check.same("CODE of 0", b.x.leaf(1, 2), 0);
        Check.same("the last leaf", b.x.leaf(1, 1023), 0);
        for (int[] w : new int[][] {{-1, 0}, {2, 0}, {0, -1}, {0, 1024}, {0, Integer.MIN_VALUE}, {0, Integer.MAX_VALUE}}) {
            Check.refuses("leaf(" + w[0] + ", " + w[1] + ")", IndexOutOfBoundsException.class, () -> b.x.leaf(w[0], w[1]));
        }
        Check.end();
    }
}
