/** Terms, 2 CODES: LOCK: "while this FRAME lasts its ACCOUNT can't be CALLED, nor LOOKED at." */
public final class LocksTest {
    private static final int[] ANSWER = Acts.row(Acts.POP, Acts.RETURN);
    private static final int[] LOCK = Acts.row(Acts.LOCK);
    private static final int[] FOUR = Acts.row(Acts.PUSH, 4, Acts.RETURN);
    private static final int[] BACK = Acts.join(
            Acts.row(Acts.PUSH, 100, Acts.PUSH, 0, Acts.PUSH, 0, Acts.PUSH, 1, Acts.CALL), Acts.BOTH);
    private static final int[] LOOK_BACK = Acts.join(
            Acts.row(Acts.PUSH, 100, Acts.PUSH, 0, Acts.PUSH, 1, Acts.LOOK), Acts.BOTH);
    private static final int[] CALL_TWO = Acts.join(Acts.call(0, 0, 2), ANSWER);

    public static void main(String[] args) {
        itCantBeCalled();
        norLookedAt();
        norByItself();
        norFromFarWithin();
        withoutALockItCan();
        othersCan();
        theCallFailsAndItsGasStays();
        whileThisFrameLasts();
        anInnerLockEndsWithItsFrame();
        locksEndHoweverTheirFramesEnd();
        lockedTwice();
        notBeforeTheLock();
        aLockWithinALook();
        anHeirMayHaveALock();
        notInAnotherOrder();
        Check.end();
    }

    private static void due(String what, int[] first, int[] second, long due) {
        Bench b = new Bench(first, second);
        b.order(1, 0, 0, 9000).block();
        Check.same(what, b.answer(0), due);
    }

    private static void itCantBeCalled() {
        due("CALLED", Acts.calledOrOrdered(FOUR, Acts.join(LOCK, CALL_TWO)), BACK, 0);
    }

    private static void norLookedAt() {
        due("LOOKED at", Acts.calledOrOrdered(FOUR, Acts.join(LOCK, CALL_TWO)), LOOK_BACK, 0);
    }

    private static void norByItself() {
        for (int[] again : new int[][] {BACK, LOOK_BACK}) {
            due("by itself", Acts.calledOrOrdered(FOUR, Acts.join(LOCK, again)), FOUR, 0);
            due("by itself without a LOCK", Acts.calledOrOrdered(FOUR, again), FOUR, 41);
        }
    }

    /** 1 has the LOCK and CALLS 2, that CALLS 3, and so on to 9, which CALLS 1. */
    private static void norFromFarWithin() {
        for (int[] lock : new int[][] {LOCK, Acts.row()}) {
            int[][] codes = new int[9][];
            for (int i = 1; i < 8; i++) {
                codes[i] = Acts.row(Acts.GAS, Acts.PUSH, 0, Acts.PUSH, 0, Acts.PUSH, i + 2, Acts.CALL, Acts.POP,
                        Acts.RETURN);
            }
            codes[0] = Acts.calledOrOrdered(FOUR, Acts.join(lock, CALL_TWO));
            codes[8] = BACK;
            Bench b = new Bench(codes);
            b.order(1, 0, 0, 9000).block();
            Check.same("from the ninth FRAME", b.answer(0), lock == LOCK ? 0 : 41);
        }
    }

    private static void withoutALockItCan() {
        due("CALLED", Acts.calledOrOrdered(FOUR, CALL_TWO), BACK, 41);
        due("LOOKED at", Acts.calledOrOrdered(FOUR, CALL_TWO), LOOK_BACK, 41);
    }

    private static void othersCan() {
        due("another ACCOUNT", Acts.join(LOCK, CALL_TWO), FOUR, 4);
        Bench b = new Bench(Acts.join(LOCK, CALL_TWO), Acts.join(Acts.call(0, 0, 3), ANSWER), FOUR);
        b.order(1, 0, 0, 9000).block();
        Check.same("by another ACCOUNT", b.answer(0), 4);
    }

    /** "It fails (ends UNDONE with 0, the GAS stays with the caller) when .. its ACCOUNT has a LOCK" */
    private static void theCallFailsAndItsGasStays() {
        int[] first = Acts.row(Acts.LOCK, Acts.PUSH, 100, Acts.PUSH, 0, Acts.PUSH, 0, Acts.SELF, Acts.CALL, Acts.GAS,
                Acts.RETURN);
        new Bench(first).run(0, 0, 500).due("CALL", 0, 1, 25 + 3 + 4 + 30 + 1, 500 - 63);
        int[] gives = Acts.row(Acts.PUSH, 100, Acts.PUSH, 0, Acts.PUSH, 60, Acts.PUSH, 1, Acts.CALL, Acts.RETURN);
        Bench b = new Bench(Acts.join(LOCK, CALL_TWO), gives);
        b.order(1, 0, 0, 9000).block();
        Check.same("no value moves", b.balance(2), 100);
    }

    private static void whileThisFrameLasts() {
        int[] twice = Acts.join(LOCK, Acts.call(0, 0, 2), Acts.row(Acts.POP, Acts.POP), CALL_TWO);
        due("the second time", Acts.calledOrOrdered(FOUR, twice), BACK, 0);
        int[] calls = Acts.join(Acts.call(0, 0, 1), Acts.row(Acts.POP, Acts.POP), BACK);
        Bench b = new Bench(Acts.join(LOCK, FOUR), calls);
        b.order(2, 0, 0, 9000).block();
        Check.same("when it has ended", b.answer(0), 41);
    }

    /** The ACCOUNT has another FRAME still, but that one has no LOCK. */
    private static void anInnerLockEndsWithItsFrame() {
        int[] twice = Acts.join(Acts.call(0, 0, 2), Acts.row(Acts.POP, Acts.POP), CALL_TWO);
        due("the second time", Acts.calledOrOrdered(Acts.join(LOCK, FOUR), twice), BACK, 41);
    }

    /** "LOCKS end with their FRAMES" */
    private static void locksEndHoweverTheirFramesEnd() {
        int[][] ends = {FOUR, Acts.row(Acts.PUSH, 4, Acts.REVERT), Acts.row(Acts.POP), Acts.row(Acts.STOP),
                Acts.row(Acts.PUSH, 20, Acts.CLOSE)};
        long[] due = {41, 40, 0, 1, 1};
        for (int i = 0; i < ends.length; i++) {
            int[] calls = Acts.join(Acts.call(0, 0, 1), Acts.row(Acts.POP, Acts.POP), Acts.call(0, 0, 1), Acts.BOTH);
            Bench b = new Bench(Acts.join(LOCK, ends[i]), calls);
            b.order(2, 0, 0, 9000).block();
            Check.same("again, behind end " + i, b.answer(0), due[i]);
        }
    }

    private static void lockedTwice() {
        due("CALLED", Acts.calledOrOrdered(FOUR, Acts.join(LOCK, LOCK, CALL_TWO)), BACK, 0);
        int[] calls = Acts.join(Acts.call(0, 0, 1), Acts.row(Acts.POP, Acts.POP), BACK);
        Bench b = new Bench(Acts.join(LOCK, LOCK, FOUR), calls);
        b.order(2, 0, 0, 9000).block();
        Check.same("when it has ended", b.answer(0), 41);
    }

    private static void notBeforeTheLock() {
        int[] first = Acts.join(Acts.call(0, 0, 2), Acts.row(Acts.POP, Acts.LOCK, Acts.RETURN));
        due("CALLED before it", Acts.calledOrOrdered(FOUR, first), BACK, 41);
    }

    private static void aLockWithinALook() {
        due("of another", Acts.calledOrOrdered(FOUR, Acts.join(Acts.look(0, 2), ANSWER)), Acts.join(LOCK, BACK), 41);
        due("of itself", Acts.calledOrOrdered(FOUR, Acts.join(Acts.look(0, 2), ANSWER)),
                Acts.join(LOCK, Acts.row(Acts.PUSH, 100, Acts.PUSH, 0, Acts.SELF, Acts.LOOK), Acts.BOTH), 0);
    }

    private static void anHeirMayHaveALock() {
        Bench b = new Bench(Acts.join(LOCK, CALL_TWO), Acts.row(Acts.PUSH, 1, Acts.CLOSE));
        b.order(1, 0, 0, 9000).block();
        Check.same("its BALANCE", b.balance(1), 200);
    }

    private static void notInAnotherOrder() {
        Bench b = new Bench(Acts.calledOrOrdered(FOUR, CALL_TWO), BACK, LOCK, Acts.join(LOCK, Acts.row(Acts.POP)));
        b.order(3, 0, 0, 100).order(4, 0, 0, 100).order(1, 0, 0, 9000).order(3, 0, 0, 100).block();
        Check.same("behind a LOCK", b.answer(2), 41);
        Check.same("the same ACCOUNT", b.ending(3), 1);
    }
}
