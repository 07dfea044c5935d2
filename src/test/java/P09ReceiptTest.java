/** Promise 9: receipt. */
public final class P09ReceiptTest {
    public static void main(String[] args) {
        Bench b = new Bench(
                Acts.row(Acts.ARGUMENT, Acts.RETURN),
                Acts.row(Acts.ARGUMENT, Acts.REVERT),
                Acts.row(Acts.PUSH, 7, Acts.POP, Acts.POP));
        b.order(1, 0, -5, 100).order(2, 0, 6, 100).order(3, 0, 0, 100).order(9, 0, 3, 100).order(1, 0, 8, 24).block();
        b.due("WELL", 0, 1, 26, -5);
        b.due("UNDONE", 1, 2, 26, 6);
        b.due("BROKEN", 2, 3, 100, 0);
        b.due("without a CODE", 3, 1, 25, 0);
        b.due("VOID", 4, 0, 0, 0);
        int[][] wrong = {{-1, 0, 0}, {2, 0, 0}, {1, -1, 0}, {1, 5, 0}, {1, 0, -1}, {1, 0, 3}, {0, 0, 0},
            {1, Integer.MAX_VALUE, 0}, {1, Integer.MIN_VALUE, 0}, {1, 0, Integer.MAX_VALUE}};
        for (int[] w : wrong) {
            Check.refuses("receipt(" + w[0] + ", " + w[1] + ", " + w[2] + ")", IndexOutOfBoundsException.class,
                    () -> b.x.receipt(w[0], w[1], w[2]));
        }
        Check.end();
    }
}
