/** Terms, 2 CODES: what stays of a CALL that ends WELL, and what is as it was behind one that is UNDONE or BROKEN. */
public final class UndoneTest {
    private static final int[] REVERTS = Acts.row(Acts.PUSH, 3, Acts.REVERT);
    private static final int[] BREAKS = Acts.repeat(5, Acts.POP);
    private static final int[][] ENDS = {REVERTS, BREAKS};

    public static void main(String[] args) {
        wellAllStays();
        theValueIsBack();
        cellsAreAsTheyWere();
        codesAreAsTheyWere();
        whatWasMadeIsEmpty();
        eventsAreGone();
        whatIsToBeGivenBackIsGone();
        whatWasToBeGivenBackStays();
        whatWasDoneBeforeTheCallStays();
        whatWentWellWithinIsUndone();
        whatWasUndoneWithinStaysSo();
        onlyTheCallIsUndone();
        ofAnOrderTheNonceAndGasStay();
        nineFramesAreUndone();
        Check.end();
    }

    /** Account 2 does this when it is CALLED with value 30 by account 1, for an order of account 0. */
    private static Bench called(int[] acts) {
        int[] calls = Acts.join(Acts.call(0, 30, 2), Acts.BOTH);
        return new Bench(calls, acts, Acts.row(Acts.STOP)).run(0, 0, 9000);
    }

    /** "WELL: all that was done stays." */
    private static void wellAllStays() {
        int[] acts = Acts.join(Acts.store(0, 5), Acts.row(Acts.PUSH, 2, Acts.BECOME, Acts.PUSH, 1, Acts.PUSH, 4, Acts.EMIT),
                Acts.row(Acts.PUSH, 2, Acts.PUSH, 10, Acts.MAKE, Acts.POP), Acts.call(0, 7, 20),
                Acts.row(Acts.PUSH, 3, Acts.RETURN));
        Bench b = called(acts);
        Check.same("it tells", b.answer(0), 31);
        Check.same("value", b.balance(1), 70);
        Check.same("value, less what went on", b.balance(2), 130 - 10 - 7);
        Check.same("CELL", b.cell(2, 0), 5);
        Check.same("CODE", b.codeOf(2), 2);
        Check.same("EVENTS", b.events(), 1);
        Check.same("what was made", b.balance(4), 10);
        Check.same("what was CALLED", b.balance(20), 7);
    }

    /** "what was done since the CALL began is as it was (value, .." */
    private static void theValueIsBack() {
        for (int[] end : ENDS) {
            Bench b = called(Acts.join(Acts.call(0, 130, 20), end));
            Check.same("of the caller", b.balance(1), 100);
            Check.same("of the one that was CALLED", b.balance(2), 100);
            Check.same("of a third one", b.balance(20), 0);
            Check.same("what it tells", b.answer(0), end == REVERTS ? 30 : 0);
        }
    }

    /** ".. CELLS, .." */
    private static void cellsAreAsTheyWere() {
        int[] sets = Acts.join(Acts.store(0, 5), Acts.store(15, 6), Acts.row(Acts.STOP));
        for (int[] end : ENDS) {
            int[] changes = Acts.join(Acts.store(0, 0), Acts.store(15, 7), Acts.store(3, 8), end);
            Bench b = new Bench(Acts.branch(Acts.row(Acts.ARGUMENT), changes, sets));
            b.order(1, 0, 0, 900).order(1, 0, 1, 900).block();
            Check.same("how it ends", b.ending(1), end == REVERTS ? 2 : 3);
            Check.same("CELL 0", b.cell(1, 0), 5);
            Check.same("CELL 15", b.cell(1, 15), 6);
            Check.same("CELL 3", b.cell(1, 3), 0);
        }
    }

    /** ".. CODES, ..": of BECOME, and of CLOSE within it. */
    private static void codesAreAsTheyWere() {
        for (int[] end : ENDS) {
            Bench b = called(Acts.join(Acts.row(Acts.PUSH, 2, Acts.BECOME), Acts.call(0, 0, 3), end));
            Check.same("of BECOME", b.codeOf(2), 1);
            b = new Bench(Acts.join(Acts.call(0, 0, 2), end), Acts.row(Acts.PUSH, 20, Acts.CLOSE)).run(0, 0, 9000);
            Check.same("of CLOSE", b.codeOf(2), 1);
            Check.same("its BALANCE", b.balance(2), 100);
        }
    }

    private static void whatWasMadeIsEmpty() {
        int[] make = Acts.row(Acts.PUSH, 2, Acts.PUSH, 10, Acts.MAKE);
        for (int[] end : ENDS) {
            Bench b = called(Acts.join(make, end));
            Check.same("4 is EMPTY", b.x.digest(1, 5, 4), 0);
            int[] twice = Acts.join(Acts.call(0, 0, 2), make, Acts.row(Acts.RETURN));
            b = new Bench(twice, Acts.join(make, end), Acts.row(Acts.STOP)).run(0, 0, 9000);
            Check.same("4 is made then", b.answer(0), 4);
            Check.same("by the other", b.balance(1), 90);
        }
    }

    /** ".. EVENTS, .." */
    private static void eventsAreGone() {
        int[] emits = Acts.row(Acts.PUSH, 1, Acts.ARGUMENT, Acts.EMIT);
        for (int[] end : ENDS) {
            int[] outer = Acts.join(Acts.row(Acts.PUSH, 8, Acts.PUSH, 9, Acts.EMIT), Acts.call(0, 0, 2), Acts.call(7, 0, 3));
            Bench b = new Bench(outer, Acts.join(emits, end), emits).run(0, 0, 9000);
            Check.same("EVENTS", b.events(), 2);
            Check.same("the one before", b.x.event(1, 0, 2), 9);
            Check.same("the one behind", b.x.event(1, 1, 2), 7);
        }
    }

    /** ".. what is to be GIVEN BACK": 15 of the CALL that is UNDONE are not. */
    private static void whatIsToBeGivenBackIsGone() {
        int[] clear = Acts.join(Acts.store(0, 1), Acts.store(0, 0), Acts.row(Acts.ARGUMENT));
        int[] clears = Acts.branch(clear, Acts.row(Acts.PUSH, 0, Acts.REVERT), Acts.row(Acts.STOP));
        Bench b = new Bench(clears, Acts.join(Acts.call(0, 0, 1), Acts.call(1, 0, 1)));
        b.order(1, 0, 0, 900).order(1, 0, 1, 900).order(2, 0, 0, 9000).block();
        int each = 62 + 22 + 3;
        b.due("WELL", 0, 1, 25 + each - 15, 0);
        b.due("UNDONE", 1, 2, 25 + each + 1, 0);
        b.due("one of each", 2, 1, 25 + 2 * (5 + 30) + each + each + 1 - 15, 0);
    }

    /** What was to be GIVEN BACK before the CALL began is still. */
    private static void whatWasToBeGivenBackStays() {
        for (int[] end : ENDS) {
            int[] outer = Acts.join(Acts.store(0, 1), Acts.store(0, 0),
                    Acts.row(Acts.PUSH, 100, Acts.PUSH, 0, Acts.PUSH, 0, Acts.PUSH, 2, Acts.CALL));
            Bench b = new Bench(outer, end).run(0, 0, 900);
            int inner = end == REVERTS ? 1 : 100;
            b.due("of the outer one", 0, 1, 25 + 84 + 34 + inner - 15, 0);
        }
    }

    private static void whatWasDoneBeforeTheCallStays() {
        for (int[] end : ENDS) {
            int[] outer = Acts.join(Acts.store(0, 5), Acts.call(0, 7, 20), Acts.call(0, 30, 2));
            Bench b = new Bench(outer, end).run(6, 0, 9000);
            Check.same("how it ends", b.ending(0), 1);
            Check.same("CELL", b.cell(1, 0), 5);
            Check.same("value that went", b.balance(20), 7);
            Check.same("value that it got", b.balance(1), 100 + 6 - 7);
        }
    }

    /** What a CALL within it did WELL is undone with it. */
    private static void whatWentWellWithinIsUndone() {
        for (int[] end : ENDS) {
            int[] inner = Acts.join(Acts.store(4, 4), Acts.row(Acts.PUSH, 1, Acts.PUSH, 1, Acts.EMIT), Acts.call(0, 3, 20));
            int[] middle = Acts.join(Acts.call(0, 9, 3), end);
            int[] outer = Acts.join(Acts.call(0, 30, 2), Acts.BOTH);
            Bench b = new Bench(outer, middle, inner).run(0, 0, 9000);
            Check.same("CELL", b.cell(3, 4), 0);
            Check.same("EVENTS", b.events(), 0);
            for (int account = 1; account <= 3; account++) {
                Check.same("BALANCE of " + account, b.balance(account), 100);
            }
            Check.same("BALANCE of 20", b.balance(20), 0);
        }
    }

    private static void whatWasUndoneWithinStaysSo() {
        for (int[] end : ENDS) {
            int[] inner = Acts.join(Acts.store(4, 4), end);
            int[] calls = Acts.row(Acts.PUSH, 100, Acts.PUSH, 0, Acts.PUSH, 9, Acts.PUSH, 3, Acts.CALL);
            int[] middle = Acts.join(Acts.store(5, 5), calls, Acts.store(6, 6));
            int[] outer = Acts.join(Acts.call(0, 30, 2), Acts.BOTH);
            Bench b = new Bench(outer, middle, inner).run(0, 0, 9000);
            Check.same("it tells", b.answer(0), 1);
            Check.same("CELL 4 of 3", b.cell(3, 4), 0);
            Check.same("CELL 5 of 2", b.cell(2, 5), 5);
            Check.same("CELL 6 of 2", b.cell(2, 6), 6);
            Check.same("BALANCE of 2", b.balance(2), 130);
            Check.same("BALANCE of 3", b.balance(3), 100);
        }
    }

    /** The same ACCOUNT in both: what the outer FRAME did stays, what the inner one did does not. */
    private static void onlyTheCallIsUndone() {
        for (int[] end : ENDS) {
            int[] inner = Acts.join(Acts.store(0, 8), Acts.store(1, 9), end);
            int[] outer = Acts.join(Acts.store(0, 5), Acts.row(Acts.PUSH, 100, Acts.PUSH, 1, Acts.PUSH, 0, Acts.SELF,
                    Acts.CALL), Acts.store(2, 6), Acts.row(Acts.STOP));
            Bench b = new Bench(Acts.branch(Acts.row(Acts.ARGUMENT), inner, outer)).run(0, 0, 9000);
            Check.same("how it ends", b.ending(0), 1);
            Check.same("CELL 0", b.cell(1, 0), 5);
            Check.same("CELL 1", b.cell(1, 1), 0);
            Check.same("CELL 2", b.cell(1, 2), 6);
        }
    }

    private static void ofAnOrderTheNonceAndGasStay() {
        for (int[] end : ENDS) {
            Bench b = new Bench(Acts.join(Acts.store(0, 5), end));
            b.order(1, 40, 0, 500, 2).block();
            long used = end == REVERTS ? 25 + 62 + 1 : 500;
            b.due("the ORDER", 0, end == REVERTS ? 2 : 3, used, end == REVERTS ? 3 : 0);
            Check.same("NONCE", b.x.leaf(1, 1), 1);
            Check.same("BALANCE of from", b.balance(0), 1000000 - 2 * used);
            Check.same("BALANCE of the MAKER", b.balance(31), 2 * used);
            Check.same("BALANCE of to", b.balance(1), 100);
        }
    }

    /** Ten FRAMES within one another; the first CALL within the ORDER is UNDONE when nine have ended WELL. */
    private static void nineFramesAreUndone() {
        int[] before = Acts.row(Acts.ARGUMENT, Acts.ARGUMENT, Acts.STORE, Acts.ARGUMENT);
        int[] deeper = Acts.row(Acts.GAS, Acts.ARGUMENT, Acts.PUSH, 1, Acts.SUB, Acts.PUSH, 0, Acts.SELF, Acts.CALL);
        int[] stores = Acts.branch(before, deeper, Acts.row(Acts.STOP));
        int[] undo = Acts.join(Acts.call(8, 0, 1), REVERTS);
        Bench b = new Bench(stores, undo);
        b.order(1, 0, 9, 5000).block();
        for (int cell = 1; cell <= 9; cell++) {
            Check.same("CELL " + cell, b.cell(1, cell), cell);
        }
        Bench undone = new Bench(stores, undo);
        undone.order(2, 0, 0, 5000).block();
        Check.same("how it ends", undone.ending(0), 2);
        Check.same("account 1 is as it was", undone.x.digest(1, 5, 1), undone.x.digest(0, 5, 1));
    }
}
