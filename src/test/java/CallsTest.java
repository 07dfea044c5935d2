/** Terms, 2 CODES: ACTS that go beyond their own FRAME, and what is undone. */
public final class CallsTest {
    private static final int[] ANSWER = Acts.row(Acts.POP, Acts.RETURN);
    private static final int[] FLAG = Acts.row(Acts.RETURN);
    /** A row for two answers in one: 10 times what the CALL ended with, and the flag. */
    private static final int[] BOTH = Acts.row(Acts.SWAP, 1, Acts.PUSH, 10, Acts.MUL, Acts.ADD, Acts.RETURN);

    public static void main(String[] args) {
        whatACallTells();
        gasOfACall();
        failingCalls();
        tenFrames();
        valueMoves();
        whatIsUndone();
        looks();
        locks();
        makes();
        emptyAccountsWithAFrame();
        becomes();
        closes();
        Check.end();
    }

    private static void whatACallTells() {
        Bench b = new Bench(
                Acts.row(Acts.ARGUMENT, Acts.RETURN),
                Acts.row(Acts.ARGUMENT, Acts.REVERT),
                Acts.row(Acts.ARGUMENT, Acts.POP, Acts.POP),
                Acts.join(Acts.call(5, 0, 1), BOTH),
                Acts.join(Acts.call(5, 0, 2), BOTH),
                Acts.join(Acts.call(5, 0, 3), BOTH),
                Acts.join(Acts.call(5, 0, 20), BOTH),
                Acts.join(Acts.look(5, 1), BOTH),
                Acts.join(Acts.look(5, 2), BOTH));
        int[] due = {51, 50, 0, 1, 51, 50};
        for (int i = 0; i < due.length; i++) {
            b.order(4 + i, 0, 0, 5000);
        }
        b.block();
        for (int i = 0; i < due.length; i++) {
            Check.same("code " + (3 + i), b.answer(i), due[i]);
            Check.same("code " + (3 + i) + " ends", b.ending(i), 1);
        }
    }

    private static void gasOfACall() {
        int[] tellsGas = Acts.row(Acts.GAS, Acts.RETURN);
        for (long gas : new long[] {0, -1, Long.MIN_VALUE}) {
            Bench b = new Bench(tellsGas, Acts.join(Acts.big(gas), Acts.row(Acts.PUSH, 0, Acts.PUSH, 0, Acts.PUSH, 1, Acts.CALL), FLAG));
            b.order(2, 0, 0, 500).block();
            b.due("gas " + gas, 0, 1, 25 + 5 + 30, 0);
        }
        Bench all = new Bench(tellsGas, Acts.join(Acts.big(Long.MAX_VALUE), Acts.row(Acts.PUSH, 0, Acts.PUSH, 0, Acts.PUSH, 1, Acts.CALL), ANSWER));
        all.order(2, 0, 0, 500).block();
        all.due("all that is left", 0, 1, 25 + 5 + 30 + 1 + 1, 500 - 25 - 5 - 30 - 1);
        Bench some = new Bench(tellsGas, Acts.row(Acts.PUSH, 100, Acts.PUSH, 0, Acts.PUSH, 1, Acts.LOOK, Acts.POP, Acts.RETURN));
        some.order(2, 0, 0, 500).block();
        some.due("what is not used comes back", 0, 1, 25 + 3 + 25 + 1 + 1, 99);
        int[] breaks = Acts.row(Acts.POP);
        Bench broken = new Bench(breaks, Acts.row(Acts.PUSH, 100, Acts.PUSH, 0, Acts.PUSH, 0, Acts.PUSH, 1, Acts.CALL, Acts.GAS, Acts.RETURN));
        broken.order(2, 0, 0, 500).block();
        broken.due("BROKEN uses it up", 0, 1, 25 + 4 + 30 + 100 + 1, 500 - 25 - 4 - 30 - 100 - 1);
        Bench undone = new Bench(Acts.row(Acts.PUSH, 1, Acts.REVERT), Acts.row(Acts.PUSH, 100, Acts.PUSH, 0, Acts.PUSH, 0, Acts.PUSH, 1, Acts.CALL));
        undone.order(2, 0, 0, 500).block();
        undone.due("UNDONE gives back what it did not use", 0, 1, 25 + 4 + 30 + 1, 0);
    }

    private static void failing(String what, long value, long to) {
        int[] call = Acts.join(Acts.big(200), Acts.row(Acts.PUSH, 7), Acts.big(value), Acts.big(to), Acts.row(Acts.CALL), BOTH);
        Bench b = new Bench(Acts.row(Acts.ARGUMENT, Acts.RETURN), call);
        b.order(2, 0, 0, 900).block();
        b.due(what, 0, 1, 25 + 7 + 30 + 5, 0);
        Check.same(what + ": BALANCE", b.balance(2), 100);
    }

    private static void failingCalls() {
        failing("to -1", 0, -1);
        failing("to 32", 0, 32);
        failing("to 2^32 + 1", 0, (1L << 32) + 1);
        failing("value -1", -1, 1);
        failing("the least value", Long.MIN_VALUE, 1);
        failing("value 101 of 100", 101, 1);
        failing("value 101 of 100 to one without a CODE", 101, 20);
        Bench look = new Bench(Acts.row(Acts.STOP), Acts.join(Acts.look(0, 32), FLAG));
        look.order(2, 0, 0, 900).block();
        look.due("LOOK at 32", 0, 1, 25 + 4 + 25, 0);
    }

    /** Calls itself with all gas as deep as it goes; answers how many CALLS went WELL below it. */
    private static void tenFrames() {
        int[] deeper = Acts.join(Acts.big(30000), Acts.row(Acts.PUSH, 0, Acts.PUSH, 0, Acts.SELF, Acts.CALL, Acts.ADD, Acts.RETURN));
        Bench b = new Bench(deeper).run(0, 0, 3000);
        b.due("ten FRAMES", 0, 1, 25 + 10 * 36, 9);
        b.x.view(0, 0, 1, 0, 3000);
        Check.same("FRAMES of a view", b.x.seen(2), 10);
        int[] nextArgument = Acts.row(Acts.ARGUMENT, Acts.PUSH, 1, Acts.SUB, Acts.DUP, 0);
        int[] callNobody = Acts.row(Acts.PUSH, 0, Acts.PUSH, 0, Acts.PUSH, 1, Acts.PUSH, 20, Acts.CALL, Acts.RETURN);
        int[] callSelf = Acts.join(Acts.big(30000), Acts.row(Acts.SWAP, 1, Acts.PUSH, 0, Acts.SELF, Acts.CALL, Acts.POP, Acts.RETURN));
        int[] toNobody = Acts.branch(nextArgument, callSelf, callNobody);
        b = new Bench(toNobody);
        b.order(1, 0, 9, 3000).order(1, 0, 10, 3000).block();
        Check.same("a CALL within nine to one without a CODE", b.answer(0), 1);
        Check.same("within ten FRAMES", b.answer(1), 0);
        Check.same("BALANCE of that one", b.balance(20), 1);
    }

    private static void valueMoves() {
        Bench b = new Bench(Acts.row(Acts.VALUE, Acts.RETURN), Acts.join(Acts.call(0, 60, 1), Acts.call(0, 40, 20), ANSWER));
        b.order(2, 0, 0, 9000).block();
        Check.same("all of it", b.balance(2), 0);
        Check.same("to a CODE", b.balance(1), 160);
        Check.same("to one without", b.balance(20), 40);
        int[] again = Acts.row(Acts.PUSH, 100, Acts.PUSH, 0, Acts.PUSH, 50, Acts.SELF, Acts.CALL, Acts.RETURN);
        Bench self = new Bench(Acts.calledOrOrdered(Acts.row(Acts.VALUE, Acts.RETURN), again));
        self.order(1, 0, 0, 900).block();
        Check.same("to itself", self.balance(1), 100);
        Check.same("to itself ends", self.answer(0), 1);
    }

    private static void whatIsUndone() {
        int[] all = Acts.join(Acts.store(0, 0), Acts.store(1, 5), Acts.row(Acts.PUSH, 0, Acts.PUSH, 10, Acts.MAKE, Acts.POP),
                Acts.row(Acts.PUSH, 0, Acts.BECOME, Acts.PUSH, 1, Acts.PUSH, 2, Acts.EMIT), Acts.call(0, 7, 20), Acts.row(Acts.LOCK));
        int[] fills = Acts.join(Acts.store(0, 9), Acts.row(Acts.PUSH, 2, Acts.BECOME));
        int[] undone = Acts.join(all, Acts.row(Acts.PUSH, 3, Acts.REVERT));
        int[] broken = Acts.join(all, Acts.repeat(5, Acts.POP));
        int[] calls = Acts.join(Acts.call(0, 30, 2), Acts.row(Acts.POP, Acts.POP), Acts.call(0, 30, 2), BOTH);
        for (int[] how : new int[][] {undone, broken}) {
            Bench b = new Bench(Acts.row(Acts.STOP), fills, how, calls);
            b.order(2, 0, 0, 500).block();
            long root = b.x.digest(1, 5, 2);
            b.order(2, 50, 0, 900).block();
            Check.same("an ORDER is UNDONE: account 2", b.x.digest(2, 5, 2), root);
            Check.same("BALANCE of 20", b.balance(20), 0);
            Check.same("EVENTS", b.events(), 0);
            Check.same("NONCE", b.x.leaf(2, 1), 2);
            Check.same("value", b.balance(0), 1000000);
            b.order(4, 0, 0, 9000).block();
            Check.same("a CALL is UNDONE: account 2", b.x.digest(3, 5, 2), root);
            Check.same("account 4", b.balance(4), 100);
            Check.same("account 5", b.balance(5), 0);
            Check.same("both times", b.answer(0), how == undone ? 30 : 0);
            Check.same("EVENTS of the CALL", b.events(), 0);
        }
        giveBackIsUndone();
    }

    private static void giveBackIsUndone() {
        int[] clear = Acts.join(Acts.store(0, 1), Acts.store(0, 0), Acts.row(Acts.ARGUMENT));
        int[] clears = Acts.branch(clear, Acts.row(Acts.PUSH, 0, Acts.REVERT), Acts.row(Acts.STOP));
        Bench b = new Bench(clears, Acts.join(Acts.call(0, 0, 1), Acts.call(1, 0, 1)));
        b.order(1, 0, 0, 900).order(1, 0, 1, 900).order(2, 0, 0, 9000).block();
        int each = 62 + 22 + 3;
        b.due("WELL", 0, 1, 25 + each - 15, 0);
        b.due("UNDONE", 1, 2, 25 + each + 1, 0);
        b.due("one of each", 2, 1, 25 + 2 * (5 + 30) + each + each + 1 - 15, 0);
    }

    private static void looks() {
        int[][] forbidden = {
            Acts.store(0, 0),
            Acts.row(Acts.PUSH, 0, Acts.PUSH, 0, Acts.MAKE),
            Acts.row(Acts.PUSH, 0, Acts.BECOME),
            Acts.row(Acts.PUSH, 0, Acts.PUSH, 0, Acts.EMIT),
            Acts.row(Acts.PUSH, 0, Acts.CLOSE),
            Acts.call(0, 1, 20),
            Acts.call(0, -1, 20)};
        for (int[] acts : forbidden) {
            int[] octets = Acts.join(acts, Acts.row(Acts.PUSH, 1, Acts.RETURN));
            int[] calls = Acts.row(Acts.PUSH, 100, Acts.PUSH, 0, Acts.PUSH, 0, Acts.PUSH, 1, Acts.CALL);
            Bench b = new Bench(octets, Acts.join(Acts.look(0, 1), BOTH), Acts.join(Acts.look(0, 4), BOTH), Acts.join(calls, ANSWER));
            b.order(2, 0, 0, 9000).order(3, 0, 0, 9000).order(1, 0, 0, 900).block();
            b.due("LOOK", 0, 1, 25 + 4 + 25 + 5 + 3000, 0);
            Check.same("what a LOOK CALLS", b.answer(1), 1);
            Check.same("outside of a LOOK", b.ending(2), 1);
            b.x.view(0, 0, 1, 0, 100);
            Check.same("a view", b.x.seen(0), 3);
        }
        int[][] allowed = {Acts.row(Acts.PUSH, 0, Acts.LOAD), Acts.row(Acts.LOCK), Acts.call(0, 0, 20), Acts.look(0, 20),
            Acts.row(Acts.PUSH, 0, Acts.BALANCE)};
        for (int[] acts : allowed) {
            Bench b = new Bench(Acts.join(acts, Acts.row(Acts.PUSH, 1, Acts.RETURN)));
            Check.same("what a view may", b.x.view(0, 0, 1, 0, 9000), 1);
        }
        int[] acts = {Acts.SELF, Acts.CALLER, Acts.ORIGIN, Acts.VALUE, Acts.ARGUMENT, Acts.HEIGHT, Acts.GAS};
        long[] due = {1, 2, 0, 0, 8, 1, 2999};
        for (int i = 0; i < acts.length; i++) {
            Bench b = new Bench(Acts.row(acts[i], Acts.RETURN), Acts.join(Acts.look(8, 1), ANSWER));
            b.order(2, 5, 3, 9000).block();
            Check.same("ACT " + acts[i] + " in a LOOK", b.answer(0), due[i]);
            Check.same("a LOOK moves no value", b.balance(1), 100);
        }
        Bench inner = new Bench(Acts.store(0, 1), Acts.join(Acts.look(0, 3), BOTH), Acts.join(Acts.look(0, 1), FLAG),
                Acts.join(Acts.look(0, 3), Acts.row(Acts.POP, Acts.POP), Acts.store(0, 1), Acts.row(Acts.PUSH, 5, Acts.RETURN)));
        inner.order(2, 0, 0, 9000).order(4, 0, 0, 9000).block();
        Check.same("a LOOK within a LOOK", inner.answer(0), 1);
        Check.same("behind a LOOK is none", inner.answer(1), 5);
        Check.same("what it stored", inner.cell(4, 0), 1);
    }

    private static void locks() {
        int[] back = Acts.join(Acts.row(Acts.PUSH, 100, Acts.PUSH, 0, Acts.PUSH, 0, Acts.CALLER, Acts.CALL), BOTH);
        int[] lookBack = Acts.join(Acts.row(Acts.PUSH, 100, Acts.PUSH, 0, Acts.CALLER, Acts.LOOK), BOTH);
        int[] four = Acts.row(Acts.PUSH, 4, Acts.RETURN);
        int[] lock = Acts.row(Acts.LOCK);
        int[] callTwo = Acts.join(Acts.call(0, 0, 2), ANSWER);
        lock("CALLED", Acts.calledOrOrdered(four, Acts.join(lock, callTwo)), back, 0);
        lock("LOOKED at", Acts.calledOrOrdered(four, Acts.join(lock, callTwo)), lookBack, 0);
        lock("CALLED without a LOCK", Acts.calledOrOrdered(four, callTwo), back, 41);
        lock("LOOKED at without a LOCK", Acts.calledOrOrdered(four, callTwo), lookBack, 41);
        lock("a LOCK within a LOOK", Acts.calledOrOrdered(four, Acts.join(Acts.look(0, 2), ANSWER)),
                Acts.join(lock, back), 41);
        int[] twice = Acts.join(lock, Acts.call(0, 0, 2), Acts.row(Acts.POP, Acts.POP), callTwo);
        lock("a LOCK stays with its FRAME", Acts.calledOrOrdered(four, twice), back, 0);
        int[] twiceOpen = Acts.join(Acts.call(0, 0, 2), Acts.row(Acts.POP, Acts.POP), callTwo);
        lock("a LOCK of an inner FRAME ends", Acts.calledOrOrdered(Acts.join(lock, four), twiceOpen), back, 41);
        Bench heir = new Bench(Acts.join(lock, callTwo), Acts.row(Acts.PUSH, 1, Acts.CLOSE));
        heir.order(1, 0, 0, 9000).block();
        Check.same("an heir may have a LOCK", heir.balance(1), 200);
        locksEndWithTheirFrames();
        lockOfAnotherOrder(Acts.calledOrOrdered(four, callTwo), back);
    }

    private static void lockOfAnotherOrder(int[] first, int[] back) {
        Bench b = new Bench(first, back, Acts.row(Acts.LOCK));
        b.order(3, 0, 0, 100).order(1, 0, 0, 9000).block();
        Check.same("behind a LOCK of another ORDER", b.answer(1), 41);
    }

    private static void lock(String what, int[] first, int[] second, long due) {
        Bench b = new Bench(first, second);
        b.order(1, 0, 0, 9000).block();
        Check.same(what, b.answer(0), due);
    }

    private static void locksEndWithTheirFrames() {
        int[][] ends = {Acts.row(Acts.PUSH, 4, Acts.RETURN), Acts.row(Acts.PUSH, 4, Acts.REVERT), Acts.row(Acts.POP)};
        long[] due = {41, 40, 0};
        for (int i = 0; i < 3; i++) {
            int[] calls = Acts.join(Acts.call(0, 0, 1), Acts.row(Acts.POP, Acts.POP), Acts.call(0, 0, 1), BOTH);
            Bench b = new Bench(Acts.join(Acts.row(Acts.LOCK), ends[i]), calls);
            b.order(2, 0, 0, 9000).block();
            Check.same("again", b.answer(0), due[i]);
        }
    }

    private static int[] make(int code, int value) {
        return Acts.row(Acts.PUSH, code, Acts.PUSH, value, Acts.MAKE);
    }

    private static void makes() {
        Bench b = new Bench(Acts.join(make(1, 30), Acts.row(Acts.RETURN)), Acts.row(Acts.STOP));
        b.run(0, 0, 900);
        b.due("the least EMPTY one", 0, 1, 25 + 2 + 100, 3);
        Check.same("its CODE", b.codeOf(3), 1);
        Check.same("its BALANCE", b.balance(3), 30);
        Check.same("its NONCE", b.x.leaf(1, 97), 0);
        Check.same("what its maker has", b.balance(1), 70);
        b.run(0, 0, 900);
        Check.same("the next one", b.answer(0), 4);
        for (int[] wrong : new int[][] {make(2, 0), make(-1, 0), make(1, 101), make(1, -1)}) {
            Bench none = new Bench(Acts.join(wrong, Acts.row(Acts.RETURN)), Acts.row(Acts.STOP));
            none.run(0, 0, 900).due("NONE", 0, 1, 25 + 2 + 100, -1);
            Check.same("nothing was made", none.balance(1) + none.codeOf(3), 99);
        }
        Bench farCode = new Bench(Acts.join(Acts.big(1L << 32), Acts.row(Acts.PUSH, 0, Acts.MAKE, Acts.RETURN)));
        Check.same("code 2^32", farCode.run(0, 0, 900).answer(0), -1);
        Bench just = new Bench(Acts.join(make(0, 100), Acts.row(Acts.RETURN)));
        Check.same("all it has", just.run(0, 0, 900).answer(0), 2);
        LedgerMachine x = new LedgerMachine();
        Acts.code(x, Acts.join(make(0, 0), Acts.row(Acts.RETURN)));
        x.endow(1, 0, 0);
        x.order(2, 1, 0, 0, 900, 0, 0);
        x.block(0, 9);
        Check.same("account 0", x.receipt(1, 0, 2), 0);
        Check.same("with its CODE", x.leaf(1, 2), 1);
        makesUntilThereAreNone();
    }

    private static void makesUntilThereAreNone() {
        Bench b = new Bench(Acts.join(make(0, 0), Acts.row(Acts.RETURN)));
        for (int account = 2; account < 31; account++) {
            b.x.endow(account, account == 7 ? 0 : 1, account == 7 ? 0 : -1);
        }
        b.order(1, 0, 0, 900).order(1, 0, 0, 900).block();
        Check.same("the last one", b.answer(0), 31);
        Check.same("there is none", b.answer(1), -1);
        Bench cell = new Bench(Acts.join(make(0, 0), Acts.row(Acts.RETURN)));
        cell.x.order(2, 1, 0, 0, 900, 0, 0);
        cell.x.block(0, 9);
        Check.same("one that has a NONCE is not EMPTY, and is the ORIGIN", cell.x.receipt(1, 0, 2), 3);
        cell.x.order(0, 1, 0, 0, 900, 0, 0);
        cell.x.block(1, 9);
        Check.same("nor later", cell.x.receipt(2, 0, 2), 4);
    }

    /** Account 1 CALLS 2, which CALLS 1 so that it CLOSES; 1 is EMPTY then, but has a FRAME still. */
    private static void emptyAccountsWithAFrame() {
        int[] first = Acts.calledOrOrdered(Acts.row(Acts.PUSH, 0, Acts.CLOSE), Acts.join(Acts.call(0, 0, 2), ANSWER));
        int[] second = Acts.join(Acts.row(Acts.PUSH, 100, Acts.PUSH, 0, Acts.PUSH, 0, Acts.CALLER, Acts.CALL), make(1, 0), Acts.row(Acts.RETURN));
        int[] third = Acts.join(Acts.call(0, 0, 1), make(1, 0), Acts.row(Acts.RETURN));
        Bench b = new Bench(first, second, third);
        b.order(1, 0, 0, 9000).block();
        Check.same("account 1 is gone", b.codeOf(1), -1);
        Check.same("but was not made again", b.answer(0), 4);
        b = new Bench(first, second, third);
        b.order(3, 0, 0, 9000).block();
        Check.same("without a FRAME it is", b.answer(0), 1);
        Check.same("with its new CODE", b.codeOf(1), 1);
        Check.same("what the heir got", b.balance(0), 1000100);
    }

    private static void becomes() {
        Bench b = new Bench(Acts.row(Acts.PUSH, 1, Acts.BECOME, Acts.PUSH, 7, Acts.RETURN), Acts.row(Acts.PUSH, 8, Acts.RETURN));
        b.order(1, 0, 0, 900).order(1, 0, 0, 900).block();
        b.due("the FRAME goes on as it is", 0, 1, 25 + 1 + 40 + 1, 7);
        b.due("the next one runs the new CODE", 1, 1, 26, 8);
        Check.same("CODE", b.codeOf(1), 1);
        for (long code : new long[] {-1, 1, 1L << 32}) {
            Bench broken = new Bench(Acts.join(Acts.big(code), Acts.row(Acts.BECOME)));
            broken.run(0, 0, 900).due("no such CODE", 0, 3, 900, 0);
        }
    }

    private static void closes() {
        Bench b = new Bench(Acts.join(Acts.store(0, 1), Acts.store(15, 2), Acts.row(Acts.PUSH, 20, Acts.CLOSE, Acts.POP)), Acts.row(Acts.STOP));
        b.run(6, 0, 900);
        b.due("CLOSE", 0, 1, 25 + 2 * 62 + 21, 0);
        Check.same("BALANCE", b.balance(1), 0);
        Check.same("heir", b.balance(20), 106);
        Check.same("account 1 is EMPTY", b.x.digest(1, 5, 1), 0);
        Check.same("the account before it", b.balance(0), 1000000 - 6);
        Check.same("the account behind it", b.balance(2), 100);
        for (long heir : new long[] {1, -1, 32, 1L << 32}) {
            Bench broken = new Bench(Acts.join(Acts.big(heir), Acts.row(Acts.CLOSE)));
            broken.run(0, 0, 900).due("heir " + heir, 0, 3, 900, 0);
            Check.same("BALANCE stays", broken.balance(1), 100);
            Check.same("CODE stays", broken.codeOf(1), 0);
        }
        nonceStays();
    }

    private static void nonceStays() {
        LedgerMachine x = new LedgerMachine();
        Acts.code(x, Acts.PUSH, 9, Acts.CLOSE);
        x.endow(1, 1000, 0);
        x.order(1, 1, 0, 0, 100, 1, 0);
        x.block(0, 8);
        Check.same("its NONCE stays", x.leaf(1, 33), 1);
        Check.same("its CODE does not", x.leaf(1, 34), 0);
        Check.same("what was not used comes back to it", x.leaf(1, 32), 100 - 46);
        Check.same("the heir has what was left then", x.leaf(1, 9 * 32), 900);
        Check.same("the MAKER what was used", x.leaf(1, 8 * 32), 46);
    }
}
