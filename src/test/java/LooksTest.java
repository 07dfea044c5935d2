/** Terms, 2 CODES: LOOKS, and what is BROKEN in them. */
public final class LooksTest {
    private static final int[] ANSWER = Acts.row(Acts.POP, Acts.RETURN);
    private static final int[] ONE = Acts.row(Acts.PUSH, 1, Acts.RETURN);
    private static final int[][] FORBIDDEN = {
        Acts.store(0, 0),
        Acts.store(0, 1),
        Acts.row(Acts.PUSH, 0, Acts.PUSH, 0, Acts.MAKE),
        Acts.row(Acts.PUSH, 99, Acts.PUSH, 0, Acts.MAKE),
        Acts.row(Acts.PUSH, 0, Acts.BECOME),
        Acts.row(Acts.PUSH, 0, Acts.PUSH, 0, Acts.EMIT),
        Acts.call(0, 1, 20),
        Acts.call(0, -1, 20),
        Acts.call(0, 101, 20),
        Acts.call(0, 1, 32)};

    public static void main(String[] args) {
        withValueZero();
        valueOfItsOwnIsNotNeeded();
        forbiddenInALook();
        forbiddenInWhatALookCalls();
        forbiddenInALookWithinALook();
        forbiddenTenFramesDeep();
        closeIsForbidden();
        aCallWithAValueThatIsNotZero();
        whatIsAllowed();
        behindALook();
        aLookThatIsBroken();
        Check.end();
    }

    /** "the same, with value 0, and as a LOOK" */
    private static void withValueZero() {
        int[] acts = {Acts.SELF, Acts.CALLER, Acts.ORIGIN, Acts.VALUE, Acts.ARGUMENT, Acts.HEIGHT, Acts.GAS};
        long[] due = {1, 2, 0, 0, 8, 1, 2999};
        for (int i = 0; i < acts.length; i++) {
            Bench b = new Bench(Acts.row(acts[i], Acts.RETURN), Acts.join(Acts.look(8, 1), ANSWER));
            b.order(2, 5, 3, 9000).block();
            Check.same("ACT " + acts[i], b.answer(0), due[i]);
            Check.same("no value moves", b.balance(1), 100);
        }
    }

    private static void valueOfItsOwnIsNotNeeded() {
        LedgerMachine x = new LedgerMachine();
        Acts.code(x, ONE);
        Acts.code(x, Acts.join(Acts.look(0, 1), ANSWER));
        x.endow(1, 0, 0);
        x.endow(2, 0, 1);
        Check.same("from one with BALANCE 0", x.view(0, 0, 2, 0, 9000), 1);
    }

    /** "A LOOK .. : STORE, MAKE, BECOME, EMIT, CLOSE, and CALL with a value that is not 0 are BROKEN." */
    private static void forbiddenInALook() {
        for (int[] acts : FORBIDDEN) {
            Bench b = new Bench(Acts.join(acts, ONE), Acts.join(Acts.look(0, 1), Acts.BOTH));
            b.order(2, 0, 0, 9000).order(1, 0, 0, 900).block();
            b.due("in a LOOK", 0, 1, 25 + 4 + 25 + 5 + 3000, 0);
            Check.same("not in an ORDER", b.ending(1), 1);
            b.x.view(0, 0, 1, 0, 100);
            Check.same("in a view", b.x.seen(0), 3);
        }
    }

    /** "and what it CALLS" */
    private static void forbiddenInWhatALookCalls() {
        for (int[] acts : FORBIDDEN) {
            int[] calls = Acts.row(Acts.PUSH, 100, Acts.PUSH, 0, Acts.PUSH, 0, Acts.PUSH, 1, Acts.CALL, Acts.RETURN);
            Bench b = new Bench(Acts.join(acts, ONE), calls, Acts.join(Acts.look(0, 2), Acts.BOTH));
            b.order(3, 0, 0, 9000).block();
            b.due("in a CALL of a LOOK", 0, 1, 25 + 4 + 25 + 5 + 4 + 30 + 100, 1);
            b.x.view(0, 0, 2, 0, 300);
            Check.same("in a CALL of a view", b.x.seen(1), 134);
        }
    }

    private static void forbiddenInALookWithinALook() {
        for (int[] acts : FORBIDDEN) {
            int[] looks = Acts.row(Acts.PUSH, 100, Acts.PUSH, 0, Acts.PUSH, 1, Acts.LOOK, Acts.RETURN);
            Bench b = new Bench(Acts.join(acts, ONE), looks, Acts.join(Acts.look(0, 2), Acts.BOTH));
            b.order(3, 0, 0, 9000).block();
            b.due("in a LOOK of a LOOK", 0, 1, 25 + 4 + 25 + 5 + 3 + 25 + 100, 1);
        }
    }

    /** A LOOK, then CALLS of itself down to the tenth FRAME, which STORES. */
    private static void forbiddenTenFramesDeep() {
        int[] less = Acts.row(Acts.ARGUMENT);
        int[] stores = Acts.join(Acts.store(0, 1), Acts.row(Acts.PUSH, 7, Acts.RETURN));
        int[] deeper = Acts.row(Acts.GAS, Acts.ARGUMENT, Acts.PUSH, 1, Acts.SUB, Acts.PUSH, 0, Acts.SELF, Acts.CALL,
                Acts.POP, Acts.RETURN);
        Bench b = new Bench(Acts.branch(less, deeper, stores));
        b.order(1, 0, 9, 3000).block();
        Check.same("as an ORDER", b.answer(0), 7);
        Check.same("its CELL", b.cell(1, 0), 1);
        Check.same("as a view", b.x.view(0, 0, 1, 9, 3000), 0);
    }

    private static void closeIsForbidden() {
        Bench b = new Bench(Acts.row(Acts.PUSH, 20, Acts.CLOSE), Acts.join(Acts.look(0, 1), Acts.BOTH));
        b.order(2, 0, 0, 9000).order(1, 0, 0, 900).block();
        b.due("in a LOOK", 0, 1, 25 + 4 + 25 + 5 + 3000, 0);
        Check.same("not in an ORDER", b.ending(1), 1);
        b.x.view(0, 0, 1, 0, 100);
        Check.same("in a view", b.x.seen(0), 3);
    }

    /** With value 0 it is none of these; with -1 or 1 it is. */
    private static void aCallWithAValueThatIsNotZero() {
        long[] values = {0, 1, -1, 1L << 32, Long.MIN_VALUE, Long.MAX_VALUE};
        for (long value : values) {
            int[] calls = Acts.join(Acts.row(Acts.PUSH, 0, Acts.PUSH, 0), Acts.big(value),
                    Acts.row(Acts.PUSH, 20, Acts.CALL), ONE);
            Bench b = new Bench(calls);
            Check.same("value " + value, b.x.view(0, 0, 1, 0, 900), value == 0 ? 1 : 0);
            Check.same("how it ends", b.x.seen(0), value == 0 ? 1 : 3);
        }
    }

    private static void whatIsAllowed() {
        int[][] allowed = {Acts.row(Acts.PUSH, 0, Acts.LOAD), Acts.row(Acts.LOCK), Acts.call(0, 0, 20), Acts.look(0, 20),
            Acts.row(Acts.PUSH, 0, Acts.BALANCE), Acts.call(0, 0, 32)};
        for (int[] acts : allowed) {
            Bench b = new Bench(Acts.join(acts, ONE), Acts.join(Acts.look(0, 1), ANSWER));
            Check.same("in a view", b.x.view(0, 0, 1, 0, 9000), 1);
            b.order(2, 0, 0, 9000).block();
            Check.same("in a LOOK", b.answer(0), 1);
        }
        Bench undone = new Bench(Acts.row(Acts.PUSH, 3, Acts.REVERT));
        Check.same("REVERT", undone.x.view(0, 0, 1, 0, 10), 3);
    }

    /** The FRAME that LOOKED is none itself. */
    private static void behindALook() {
        int[] looks = Acts.join(Acts.look(0, 1), Acts.row(Acts.POP, Acts.POP), Acts.store(0, 1), Acts.call(0, 7, 20),
                Acts.row(Acts.PUSH, 5, Acts.RETURN));
        Bench b = new Bench(ONE, looks);
        b.order(2, 0, 0, 9000).block();
        Check.same("it ends", b.answer(0), 5);
        Check.same("what it STORED", b.cell(2, 0), 1);
        Check.same("what it gave", b.balance(20), 7);
    }

    private static void aLookThatIsBroken() {
        int[] outer = Acts.join(Acts.store(0, 4), Acts.row(Acts.PUSH, 1, Acts.PUSH, 2, Acts.EMIT), Acts.look(0, 1),
                Acts.row(Acts.POP, Acts.POP), Acts.store(0, 0));
        Bench b = new Bench(Acts.store(0, 9), outer);
        b.order(2, 3, 0, 9000).block();
        Check.same("it goes on", b.ending(0), 1);
        Check.same("what was EMITTED before stays", b.events(), 1);
        Check.same("the value", b.balance(2), 103);
        int used = 25 + 62 + 17 + 29 + 3000 + 2 + 22;
        Check.same("so does what is GIVEN BACK", b.used(0), used - 15);
    }
}
