/** Promise 10: event, and which EVENTS of a BLOCK are kept. */
public final class P10EventTest {
    /** EMITS (count, gas left) as often as ARGUMENT tells, the count going down to 1. */
    private static final int[] MANY = Acts.row(
            Acts.ARGUMENT, Acts.DUP, 0, Acts.GAS, Acts.EMIT, Acts.PUSH, 1, Acts.SUB, Acts.DUP, 0, Acts.JUMPIF, 1);
    private static final int[] ONE = Acts.row(Acts.PUSH, 4, Acts.PUSH, 5, Acts.EMIT);

    public static void main(String[] args) {
        accountTopicDatumOrder();
        anyTopicAndDatum();
        voidOrdersAreCounted();
        noSuchBlock();
        noSuchEvent();
        noEventsAtAll();
        noSuchWhat();
        atMostSixty();
        atMostSixtyOfAllOrders();
        sixtyForEachBlock();
        countedWhenTheOrderHasEnded();
        fullWhileWhatIsUndoneRuns();
        thoseThatStayed();
        Check.end();
    }

    private static void due(Bench b, int i, long... due) {
        for (int what = 0; what < 4; what++) {
            Check.same("event(" + b.number() + ", " + i + ", " + what + ")", b.x.event(b.number(), i, what), due[what]);
        }
    }

    /** "its ACCOUNT (what = 0), topic (1), datum (2), ORDER (3)" */
    private static void accountTopicDatumOrder() {
        int[] inner = Acts.row(Acts.PUSH, 8, Acts.ARGUMENT, Acts.EMIT);
        Bench b = new Bench(inner, Acts.join(Acts.row(Acts.PUSH, 1, Acts.PUSH, 2, Acts.EMIT), Acts.call(9, 0, 1)));
        b.order(1, 0, -3, 1000).order(9, 0, 0, 25).order(2, 0, 4, 1000).block();
        Check.same("EVENTS", b.events(), 3);
        due(b, 0, 1, 8, -3, 0);
        due(b, 1, 2, 1, 2, 2);
        due(b, 2, 1, 8, 9, 2);
    }

    private static void anyTopicAndDatum() {
        Bench b = new Bench(Acts.join(Acts.big(Long.MIN_VALUE), Acts.big(Long.MAX_VALUE), Acts.row(Acts.EMIT),
                Acts.big(Long.MAX_VALUE), Acts.big(Long.MIN_VALUE), Acts.row(Acts.EMIT),
                Acts.row(Acts.PUSH, 0, Acts.PUSH, 0, Acts.EMIT)));
        b.run(0, 0, 1000);
        due(b, 0, 1, Long.MIN_VALUE, Long.MAX_VALUE, 0);
        due(b, 1, 1, Long.MAX_VALUE, Long.MIN_VALUE, 0);
        due(b, 2, 1, 0, 0, 0);
    }

    private static void voidOrdersAreCounted() {
        Bench b = new Bench(ONE);
        for (int i = 0; i < 9; i++) {
            b.x.order(0, 1, 0, 0, 24, 0, 0);
        }
        b.order(1, 0, 0, 100).block();
        Check.same("EVENTS", b.events(), 1);
        due(b, 0, 1, 4, 5, 9);
    }

    private static void noSuchBlock() {
        Bench b = new Bench(ONE).run(0, 0, 100);
        for (int block : Check.outside(0, 1)) {
            Check.refuses("block " + block, Check.INDEX, () -> b.x.event(block, 0, 0));
        }
    }

    private static void noSuchEvent() {
        Bench b = new Bench(Acts.join(ONE, ONE)).run(0, 0, 100);
        for (int i : Check.outside(0, 1)) {
            Check.refuses("event " + i, Check.INDEX, () -> b.x.event(1, i, 0));
        }
        Check.same("the last", b.x.event(1, 1, 1), 4);
    }

    private static void noEventsAtAll() {
        Bench b = new Bench(ONE).run(0, 0, 100).order(9, 0, 0, 25).block();
        Check.refuses("of BLOCK 0", Check.INDEX, () -> b.x.event(0, 0, 0));
        Check.refuses("of an ORDER without any", Check.INDEX, () -> b.x.event(2, 0, 0));
        Check.same("of another", b.x.event(1, 0, 0), 1);
    }

    private static void noSuchWhat() {
        Bench b = new Bench(Acts.join(ONE, ONE)).run(0, 0, 100);
        for (int i = 0; i < 2; i++) {
            int of = i;
            for (int what : Check.outside(0, 3)) {
                Check.refuses("what " + what, Check.INDEX, () -> b.x.event(1, of, what));
            }
        }
    }

    /** "at most 60: what would be one more is not kept." */
    private static void atMostSixty() {
        for (int many = 58; many <= 64; many++) {
            Bench b = new Bench(MANY).run(0, many, 3000);
            int kept = Math.min(many, 60);
            Check.same(many + " EVENTS", b.events(), kept);
            Check.same("the last one that is kept", b.x.event(1, kept - 1, 1), many - kept + 1);
            Check.refuses("one more", Check.INDEX, () -> b.x.event(1, kept, 0));
            Check.same("it ends WELL all the same", b.ending(0), 1);
        }
    }

    private static void atMostSixtyOfAllOrders() {
        Bench b = new Bench(MANY);
        b.order(1, 0, 50, 3000).order(1, 0, 20, 3000).order(1, 0, 1, 3000).block();
        Check.same("of three ORDERS", b.events(), 60);
        Check.same("the last one's ORDER", b.x.event(1, 59, 3), 1);
        Check.same("the last one's topic", b.x.event(1, 59, 1), 11);
        b.order(1, 0, 59, 3000).order(1, 0, 1, 3000).order(1, 0, 1, 3000).block();
        Check.same("59, one, and one more", b.events(), 60);
        Check.same("the sixtieth is of the second", b.x.event(2, 59, 3), 1);
    }

    private static void sixtyForEachBlock() {
        Bench b = new Bench(MANY).run(0, 60, 3000).run(0, 60, 3000);
        Check.same("the second BLOCK has its own", b.events(), 60);
        Check.same("the first has them still", b.x.told(1, 3), 60);
        b = new Bench(MANY).run(0, 2, 3000).run(0, 3, 3000);
        Check.same("event 0 of the first", b.x.event(1, 0, 1), 2);
        Check.same("event 0 of the second", b.x.event(2, 0, 1), 3);
        b.block();
        Check.same("one without ORDERS has none", b.events(), 0);
    }

    /** "counted when their ORDER has ended": those of a CALL that is UNDONE take no room from what comes behind it. */
    private static void countedWhenTheOrderHasEnded() {
        int[] undone = Acts.join(MANY, Acts.row(Acts.REVERT));
        int[] outer = Acts.join(Acts.call(50, 0, 1), Acts.call(50, 0, 2), Acts.call(10, 0, 1), Acts.call(3, 0, 1));
        Bench b = new Bench(MANY, undone, outer);
        b.order(3, 0, 0, 20000).block();
        Check.same("EVENTS", b.events(), 60);
        Check.same("event 49", b.x.event(1, 49, 1), 1);
        Check.same("event 50", b.x.event(1, 50, 1), 10);
        Check.same("event 50 is of account", b.x.event(1, 50, 0), 1);
        Check.same("event 59", b.x.event(1, 59, 1), 1);
    }

    /** 61 EVENTS of an ORDER that is UNDONE, then 60 of the next: all of these are kept. */
    private static void fullWhileWhatIsUndoneRuns() {
        int[] undone = Acts.join(MANY, Acts.row(Acts.REVERT));
        Bench b = new Bench(MANY, undone);
        b.order(2, 0, 61, 3000).order(1, 0, 60, 3000).block();
        Check.same("the first is UNDONE", b.ending(0), 2);
        Check.same("EVENTS", b.events(), 60);
        Check.same("the first one's ORDER", b.x.event(1, 0, 3), 1);
        Check.same("the first one's topic", b.x.event(1, 0, 1), 60);
        Check.same("the last one's ORDER", b.x.event(1, 59, 3), 1);
        Check.same("the last one's topic", b.x.event(1, 59, 1), 1);
    }

    /** "those of its ORDERS that stayed" */
    private static void thoseThatStayed() {
        int[] reverts = Acts.join(ONE, Acts.row(Acts.PUSH, 0, Acts.REVERT));
        int[] breaks = Acts.join(ONE, Acts.row(Acts.POP));
        int[] outer = Acts.join(Acts.call(0, 0, 1), Acts.row(Acts.PUSH, 6, Acts.PUSH, 7, Acts.EMIT), Acts.call(0, 0, 2));
        Bench b = new Bench(reverts, breaks, outer);
        b.order(1, 0, 0, 9000).order(2, 0, 0, 1000).order(3, 0, 0, 9000).block();
        Check.same("EVENTS", b.events(), 1);
        due(b, 0, 3, 6, 7, 2);
    }
}
