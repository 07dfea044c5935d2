/** Promise 14: seen. */
public final class P14SeenTest {
    public static void main(String[] args) {
        int[] twoLooks = Acts.join(Acts.look(0, 2), Acts.look(0, 3), Acts.row(Acts.PUSH, 0, Acts.JUMPIF, 0));
        Bench b = new Bench(
                twoLooks,
                Acts.row(Acts.PUSH, 6, Acts.REVERT),
                Acts.join(Acts.look(0, 4), Acts.look(0, 9), Acts.look(0, 33), Acts.row(Acts.STOP)),
                Acts.row(Acts.POP));
        due(b, "before one", 0, 0, 0);
        b.run(0, 0, 9000);
        due(b, "an order is no view", 0, 0, 0);
        b.x.view(0, 0, 2, 0, 50);
        due(b, "UNDONE", 2, 1, 1);
        b.x.view(0, 0, 4, 0, 50);
        due(b, "BROKEN", 3, 50, 1);
        b.x.view(0, 0, 9, 0, 50);
        due(b, "without a CODE", 1, 0, 0);
        b.x.view(0, 0, 3, 0, 29000);
        due(b, "a FRAME within it is BROKEN", 1, 3 * (4 + 25) + 3000, 2);
        b.x.view(0, 0, 1, 0, 29000);
        due(b, "FRAMES within FRAMES", 1, 2 * (4 + 25) + 1 + 3000 + 3, 4);
        for (int what : new int[] {-1, 3, Integer.MIN_VALUE, Integer.MAX_VALUE}) {
            Check.refuses("seen(" + what + ")", IndexOutOfBoundsException.class, () -> b.x.seen(what));
        }
        Check.end();
    }

    private static void due(Bench b, String what, int... due) {
        for (int i = 0; i < 3; i++) {
            Check.same(what + ": seen(" + i + ")", b.x.seen(i), due[i]);
        }
    }
}
