/** Terms, 2 CODES: LOAD, STORE, and the ACTS from SELF to BALANCE. */
public final class CellsTest {
    private static final long[] NO_CELLS = {-1, 16, 17, 32, 1L << 32, (1L << 32) + 1, Long.MIN_VALUE, Long.MAX_VALUE};

    public static void main(String[] args) {
        loadOfEachCell();
        loadOfNoCell();
        storeOfEachCell();
        storeOfNoCell();
        ofItsOwnAccount();
        whatAStoreCosts();
        fortyMoreForANewCell();
        brokenForTheFortyMore();
        fifteenToGiveBack();
        anyValue();
        knowledge();
        knowledgeWithinACall();
        gasThatIsLeftBehindIt();
        heights();
        balanceOfAnAccount();
        balanceOfNone();
        balancesWhileAnOrderRuns();
        Check.end();
    }

    private static long answer(int... octets) {
        Bench b = new Bench(Acts.join(octets, Acts.row(Acts.RETURN))).run(0, 0, 2000);
        Check.same("how it ends", b.ending(0), 1);
        return b.answer(0);
    }

    /** "k -> its own ACCOUNT's CELL k": 0 at first. */
    private static void loadOfEachCell() {
        for (int cell = 0; cell < 16; cell++) {
            Check.same("LOAD " + cell, answer(Acts.PUSH, cell, Acts.LOAD), 0);
            Check.same("LOAD behind STORE", answer(Acts.join(Acts.store(cell, 9), Acts.row(Acts.PUSH, cell, Acts.LOAD))), 9);
        }
    }

    /** "(k is not 0 .. 15: BROKEN.)" */
    private static void loadOfNoCell() {
        for (long k : NO_CELLS) {
            new Bench(Acts.join(Acts.big(k), Acts.row(Acts.LOAD))).run(0, 0, 500).due("LOAD " + k, 0, 3, 500, 0);
        }
    }

    /** "CELL k is v" */
    private static void storeOfEachCell() {
        for (int cell = 0; cell < 16; cell++) {
            Bench b = new Bench(Acts.store(cell, 7)).run(0, 0, 500);
            for (int other = 0; other < 16; other++) {
                Check.same("CELL " + other + " behind STORE " + cell, b.cell(1, other), other == cell ? 7 : 0);
            }
        }
    }

    private static void storeOfNoCell() {
        for (long k : NO_CELLS) {
            for (int value : new int[] {0, 1}) {
                Bench b = new Bench(Acts.join(Acts.big(k), Acts.row(Acts.PUSH, value, Acts.STORE)));
                b.run(0, 0, 500).due("STORE " + k, 0, 3, 500, 0);
                Check.same("the STATE of account 1", b.x.digest(1, 5, 1), b.x.digest(0, 5, 1));
                Check.same("the STATE of account 2", b.x.digest(1, 5, 2), 0);
            }
        }
    }

    private static void ofItsOwnAccount() {
        int[] calls = Acts.join(Acts.store(3, 8), Acts.call(0, 0, 1), Acts.row(Acts.PUSH, 3, Acts.LOAD, Acts.RETURN));
        Bench b = new Bench(Acts.store(3, 7), calls);
        b.order(2, 0, 0, 5000).block();
        Check.same("LOAD", b.answer(0), 8);
        Check.same("CELL 3 of 1", b.cell(1, 3), 7);
        Check.same("CELL 3 of 2", b.cell(2, 3), 8);
        Check.same("CELL 3 of 0", b.cell(0, 3), 0);
    }

    /** "STORE (20)": 0 over 0, another over one that is not 0, the same over it, 0 over it. */
    private static void whatAStoreCosts() {
        stores("0 over 0", 25 + 22, Acts.store(3, 0));
        stores("6 over 5", 25 + 62 + 22, Acts.store(3, 5), Acts.store(3, 6));
        stores("5 over 5", 25 + 62 + 22, Acts.store(3, 5), Acts.store(3, 5));
        stores("another CELL", 25 + 62 + 62, Acts.store(3, 5), Acts.store(4, 5));
    }

    private static void stores(String what, int used, int[]... rows) {
        int[] octets = Acts.join(rows);
        new Bench(octets).run(0, 0, 900).due(what, 0, 1, used, 0);
        new Bench(octets).run(0, 0, used).due(what + ", with just the gas", 0, 1, used, 0);
        new Bench(octets).run(0, 0, used - 1).due(what + ", with 1 less", 0, 3, used - 1, 0);
    }

    /** "40 more when it was 0 and v is not": the last that is too little, and the first that is not. */
    private static void fortyMoreForANewCell() {
        for (int value : new int[] {1, -1, 127, -128}) {
            stores(value + " over 0", 25 + 62, Acts.store(3, value));
        }
        new Bench(Acts.join(Acts.store(3, 5), Acts.store(3, 0), Acts.store(3, 6))).run(0, 0, 900)
                .due("anew over what was cleared", 0, 1, 25 + 62 + 22 + 62 - 15, 0);
    }

    private static void brokenForTheFortyMore() {
        for (int gas : new int[] {25 + 22, 25 + 23, 25 + 61}) {
            Bench b = new Bench(Acts.store(3, 5)).run(0, 0, gas);
            b.due("with " + gas, 0, 3, gas, 0);
            Check.same("the CELL", b.cell(1, 3), 0);
        }
    }

    /** "when v is 0 and it was not: 15 more to GIVE BACK": not for 0 over 0. */
    private static void fifteenToGiveBack() {
        int[] sets = Acts.store(3, 5);
        int[] clears = Acts.store(3, 0);
        new Bench(Acts.join(sets, clears)).run(0, 0, 900).due("once", 0, 1, 25 + 84 - 15, 0);
        new Bench(Acts.join(sets, clears, clears)).run(0, 0, 900).due("and 0 over 0", 0, 1, 25 + 106 - 15, 0);
        new Bench(Acts.join(sets, clears, sets, clears)).run(0, 0, 900).due("twice", 0, 1, 25 + 168 - 30, 0);
        new Bench(Acts.join(sets, sets)).run(0, 0, 900).due("5 over 5", 0, 1, 25 + 84, 0);
        new Bench(Acts.join(Acts.store(3, -1), clears)).run(0, 0, 900).due("0 over -1", 0, 1, 25 + 84 - 15, 0);
    }

    private static void anyValue() {
        for (long value : new long[] {Long.MIN_VALUE, Long.MAX_VALUE, -1, 1L << 32}) {
            Bench b = new Bench(Acts.row(Acts.PUSH, 15, Acts.ARGUMENT, Acts.STORE, Acts.PUSH, 15, Acts.LOAD, Acts.RETURN));
            b.run(0, value, 500).due("STORE, LOAD", 0, 1, 25 + 62 + 11, value);
            Check.same("CELL 15", b.cell(1, 15), value);
        }
    }

    private static void knowledge() {
        int[] acts = {Acts.SELF, Acts.CALLER, Acts.ORIGIN, Acts.VALUE, Acts.ARGUMENT, Acts.HEIGHT, Acts.GAS};
        long[] due = {1, 0, 0, 6, -77, 2, 500 - 25 - 1};
        for (int i = 0; i < acts.length; i++) {
            Bench b = new Bench(Acts.row(acts[i], Acts.RETURN)).block().run(6, -77, 500);
            b.due("ACT " + acts[i], 0, 1, 26, due[i]);
        }
        LedgerMachine x = new LedgerMachine();
        Acts.code(x, Acts.SELF, Acts.PUSH, 100, Acts.MUL, Acts.CALLER, Acts.ADD, Acts.RETURN);
        x.endow(31, 0, 0);
        x.order(31, 31, 0, 0, 100, 0, 0);
        x.block(0, 0);
        Check.same("SELF and CALLER 31", x.receipt(1, 0, 2), 3131);
    }

    private static void knowledgeWithinACall() {
        int[] acts = {Acts.SELF, Acts.CALLER, Acts.ORIGIN, Acts.VALUE, Acts.ARGUMENT, Acts.HEIGHT, Acts.GAS};
        long[] within = {1, 2, 0, 9, 8, 1, 3000 - 1};
        long[] behind = {3, 0, 0, 6, -77, 1, 9000 - 25 - 35 - 2 - 1};
        for (int i = 0; i < acts.length; i++) {
            int[] told = Acts.row(acts[i], Acts.RETURN);
            Bench b = new Bench(told, Acts.join(Acts.call(8, 9, 1), Acts.row(Acts.POP, Acts.RETURN)),
                    Acts.join(Acts.call(8, 9, 20), Acts.row(Acts.POP, Acts.POP), told));
            b.order(2, 6, -77, 9000).order(3, 6, -77, 9000).block();
            Check.same("ACT " + acts[i] + " in a CALL", b.answer(0), within[i]);
            Check.same("ACT " + acts[i] + " behind a CALL", b.answer(1), behind[i]);
        }
    }

    /** "29 GAS (that is left behind it)": 0 with just its cost. */
    private static void gasThatIsLeftBehindIt() {
        int[] told = Acts.row(Acts.GAS, Acts.RETURN);
        new Bench(told).run(0, 0, 26).due("with 1", 0, 1, 26, 0);
        new Bench(told).run(0, 0, 27).due("with 2", 0, 1, 26, 1);
        new Bench(told).run(0, 0, 25).due("with 0", 0, 3, 25, 0);
        new Bench(told).run(0, 0, 30000).due("with all", 0, 1, 26, 29974);
    }

    /** "HEIGHT 1 more than its parent": that of the BLOCK that is made. */
    private static void heights() {
        Bench b = new Bench(Acts.row(Acts.HEIGHT, Acts.RETURN));
        for (int height = 1; height < 40; height++) {
            b.run(0, 0, 100);
            Check.same("HEIGHT", b.answer(0), height);
        }
    }

    private static void balanceOfAnAccount() {
        Bench b = new Bench(Acts.row(Acts.ARGUMENT, Acts.BALANCE, Acts.RETURN));
        b.x.endow(31, 77, -1);
        b.order(1, 5, 1, 500).order(1, 0, 31, 500).order(1, 0, 30, 500).order(1, 3, 0, 500).block();
        long[] due = {105, 77, 0, 1000000 - 8};
        for (int i = 0; i < due.length; i++) {
            b.due("BALANCE " + i, i, 1, 31, due[i]);
        }
    }

    /** "0 if there is none such" */
    private static void balanceOfNone() {
        Bench b = new Bench(Acts.row(Acts.ARGUMENT, Acts.BALANCE, Acts.RETURN));
        b.x.endow(31, 77, -1);
        long[] none = {-1, 32, 33, 1L << 32, (1L << 32) + 1, Long.MIN_VALUE, Long.MAX_VALUE};
        for (long account : none) {
            b.order(1, 0, account, 500);
        }
        b.block();
        for (int i = 0; i < none.length; i++) {
            b.due("BALANCE " + none[i], i, 1, 31, 0);
        }
    }

    /** All gas is paid before, and comes to the MAKER, and back, behind it. */
    private static void balancesWhileAnOrderRuns() {
        Bench b = new Bench(Acts.row(Acts.ARGUMENT, Acts.BALANCE, Acts.RETURN));
        b.order(1, 3, 0, 500, 2).order(1, 0, 31, 400, 3).block();
        b.due("of its ORIGIN", 0, 1, 31, 1000000 - 3 - 1000);
        b.due("of the MAKER", 1, 1, 31, 62);
        Check.same("of the MAKER then", b.balance(31), 62 + 93);
    }
}
