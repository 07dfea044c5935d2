/** Promise 10: event, and which events of a block are kept. */
public final class P10EventTest {
    /** EMITS (ARGUMENT, gas left) as often as ARGUMENT tells, with the count as its topic. */
    private static final int[] MANY = Acts.row(
            Acts.ARGUMENT, Acts.DUP, 0, Acts.GAS, Acts.EMIT, Acts.PUSH, 1, Acts.SUB, Acts.DUP, 0, Acts.JUMPIF, 1);

    public static void main(String[] args) {
        ordinary();
        atMostSixty();
        countedWhenTheOrderHasEnded();
        eventsOfWhatIsUndoneGo();
        Check.end();
    }

    private static void due(Bench b, int i, long... due) {
        for (int what = 0; what < 4; what++) {
            Check.same("event(" + b.number() + ", " + i + ", " + what + ")", b.x.event(b.number(), i, what), due[what]);
        }
    }

    private static void ordinary() {
        int[] one = Acts.join(Acts.big(Long.MIN_VALUE), Acts.row(Acts.ARGUMENT, Acts.EMIT));
        Bench b = new Bench(one, Acts.join(Acts.row(Acts.PUSH, 1, Acts.PUSH, 2, Acts.EMIT), Acts.call(9, 0, 1)));
        b.order(1, 0, -3, 1000).order(9, 0, 0, 25).order(2, 0, 4, 1000).block();
        Check.same("events", b.events(), 3);
        due(b, 0, 1, Long.MIN_VALUE, -3, 0);
        due(b, 1, 2, 1, 2, 2);
        due(b, 2, 1, Long.MIN_VALUE, 9, 2);
        LedgerMachine x = b.x;
        int[][] wrong = {{-1, 0, 0}, {2, 0, 0}, {1, -1, 0}, {1, 3, 0}, {1, 0, -1}, {1, 0, 4}, {0, 0, 0},
            {1, Integer.MAX_VALUE, 0}, {1, Integer.MIN_VALUE, 0}, {1, 0, Integer.MAX_VALUE}};
        for (int[] w : wrong) {
            Check.refuses("event(" + w[0] + ", " + w[1] + ", " + w[2] + ")", IndexOutOfBoundsException.class,
                    () -> x.event(w[0], w[1], w[2]));
        }
        b.block();
        Check.same("the next block has none", b.events(), 0);
    }

    private static void atMostSixty() {
        Bench b = new Bench(MANY);
        b.order(1, 0, 59, 3000).block();
        Check.same("59", b.events(), 59);
        b.order(1, 0, 60, 3000).block();
        Check.same("60", b.events(), 60);
        b.order(1, 0, 61, 3000).block();
        Check.same("61", b.events(), 60);
        Check.same("the last one that is kept", b.x.event(b.number(), 59, 1), 2);
        b.order(1, 0, 50, 3000).order(1, 0, 20, 3000).order(1, 0, 1, 3000).block();
        Check.same("of three orders", b.events(), 60);
        Check.same("the last one's order", b.x.event(b.number(), 59, 3), 1);
        Check.same("the last one's topic", b.x.event(b.number(), 59, 1), 11);
    }

    /** 50 events; then a CALL that emits 50 more and is UNDONE; then 10 more: none of these is one too many. */
    private static void countedWhenTheOrderHasEnded() {
        int[] undone = Acts.join(MANY, Acts.row(Acts.REVERT));
        int[] outer = Acts.join(Acts.call(50, 0, 1), Acts.call(50, 0, 2), Acts.call(10, 0, 1), Acts.call(3, 0, 1));
        Bench b = new Bench(MANY, undone, outer);
        b.order(3, 0, 0, 20000).block();
        Check.same("events", b.events(), 60);
        Check.same("event 49", b.x.event(1, 49, 1), 1);
        Check.same("event 50", b.x.event(1, 50, 1), 10);
        Check.same("event 50 is of account", b.x.event(1, 50, 0), 1);
        Check.same("event 59", b.x.event(1, 59, 1), 1);
    }

    private static void eventsOfWhatIsUndoneGo() {
        int[] reverts = Acts.row(Acts.PUSH, 1, Acts.PUSH, 1, Acts.EMIT, Acts.PUSH, 0, Acts.REVERT);
        int[] breaks = Acts.row(Acts.PUSH, 1, Acts.PUSH, 1, Acts.EMIT, Acts.POP);
        int[] outer = Acts.join(Acts.call(0, 0, 1), Acts.row(Acts.PUSH, 4, Acts.PUSH, 5, Acts.EMIT), Acts.call(0, 0, 2));
        Bench b = new Bench(reverts, breaks, outer);
        b.order(1, 0, 0, 9000).order(2, 0, 0, 1000).order(3, 0, 0, 9000).block();
        Check.same("events", b.events(), 1);
        due(b, 0, 3, 4, 5, 2);
    }
}
