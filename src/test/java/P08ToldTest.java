/** Promise 8: told. */
public final class P08ToldTest {
    public static void main(String[] args) {
        Bench b = new Bench(Acts.row(Acts.PUSH, 5, Acts.PUSH, 6, Acts.EMIT, Acts.PUSH, 1, Acts.PUSH, 2, Acts.EMIT));
        b.order(1, 0, 0, 100).order(1, 0, 0, 40).order(2, 0, 0, 24).block();
        LedgerMachine x = b.x;
        due(x, 0, -1, 0, 0, 0, 0, 0, 1);
        due(x, 1, 0, 1, 3, 2, 25 + 34 + 40, 0, 0);
        for (int voter = 0; voter < 4; voter++) {
            x.vote(voter, 1);
        }
        due(x, 1, 0, 1, 3, 2, 99, 4, 0);
        x.vote(4, 1);
        due(x, 1, 0, 1, 3, 2, 99, 5, 1);
        x.block(1, 0);
        x.block(0, 0);
        due(x, 2, 1, 2, 0, 0, 0, 0, 0);
        due(x, 3, 0, 1, 0, 0, 0, 0, 0);
        for (int[] wrong : new int[][] {{-1, 0}, {4, 0}, {0, -1}, {0, 7}, {Integer.MIN_VALUE, 0}, {0, Integer.MAX_VALUE}}) {
            Check.refuses("told(" + wrong[0] + ", " + wrong[1] + ")", IndexOutOfBoundsException.class,
                    () -> x.told(wrong[0], wrong[1]));
        }
        Check.end();
    }

    private static void due(LedgerMachine x, int block, int... due) {
        for (int what = 0; what < 7; what++) {
            Check.same("told(" + block + ", " + what + ")", x.told(block, what), due[what]);
        }
    }
}
