/** Terms, 2 CODES: MAKE and BECOME. */
public final class MakesTest {
    private static final int[] RETURNS = Acts.row(Acts.RETURN);

    public static void main(String[] args) {
        theLeastThatIsEmpty();
        thisCodeAndValue();
        itRunsAtOnce();
        notTheOrigin();
        norOneWithAFrame();
        noneIfThereIsNone();
        theLastThatIsEmpty();
        noneIfTheCodeIsNone();
        noneIfTheBalanceIsLess();
        noneIfTheValueIsBelowZero();
        aMakerOfTheBlockMayBeEmpty();
        becomesThatOne();
        framesThatRunGoOn();
        noSuchCodeIsBroken();
        Check.end();
    }

    private static int[] make(long code, long value) {
        return Acts.join(Acts.big(code), Acts.big(value), Acts.row(Acts.MAKE));
    }

    /** "the least ACCOUNT that is EMPTY" */
    private static void theLeastThatIsEmpty() {
        Bench b = new Bench(Acts.join(make(1, 0), RETURNS), Acts.row(Acts.STOP));
        b.x.endow(4, 1, -1);
        b.order(1, 0, 0, 900).order(1, 0, 0, 900).order(1, 0, 0, 900).block();
        b.due("3 is", 0, 1, 25 + 4 + 100, 3);
        b.due("4 is not, 5 is", 1, 1, 25 + 4 + 100, 5);
        b.due("then 6", 2, 1, 25 + 4 + 100, 6);
        LedgerMachine x = new LedgerMachine();
        Acts.code(x, Acts.join(make(0, 0), RETURNS));
        x.endow(1, 0, 0);
        x.order(2, 1, 0, 0, 900, 0, 0);
        x.block(0, 9);
        Check.same("0 is the least of all", x.receipt(1, 0, 2), 0);
        Check.same("with its CODE", x.leaf(1, 2), 1);
    }

    /** "gets this CODE and value from its own BALANCE" */
    private static void thisCodeAndValue() {
        Bench b = new Bench(Acts.join(make(1, 30), RETURNS), Acts.row(Acts.STOP)).run(0, 0, 900);
        Check.same("its CODE", b.codeOf(3), 1);
        Check.same("its BALANCE", b.balance(3), 30);
        Check.same("its NONCE", b.x.leaf(1, 97), 0);
        Check.same("what its maker has", b.balance(1), 70);
        Check.same("the CODE of its maker", b.codeOf(1), 0);
    }

    private static void itRunsAtOnce() {
        int[] calls = Acts.join(Acts.row(Acts.GAS, Acts.PUSH, 0, Acts.PUSH, 0), make(1, 9), Acts.row(Acts.CALL,
                Acts.POP, Acts.RETURN));
        Bench b = new Bench(calls, Acts.row(Acts.SELF, Acts.BALANCE, Acts.PUSH, 10, Acts.MUL, Acts.SELF, Acts.ADD,
                Acts.RETURN));
        b.run(0, 0, 900);
        Check.same("the new one, with its BALANCE", b.answer(0), 93);
    }

    /** "(not ORIGIN": which has a NONCE by then, and is not EMPTY either. */
    private static void notTheOrigin() {
        LedgerMachine x = new LedgerMachine();
        Acts.code(x, Acts.join(make(0, 0), RETURNS));
        x.endow(1, 0, 0);
        x.order(0, 1, 0, 0, 900, 0, 0);
        x.block(0, 9);
        Check.same("of 0", x.receipt(1, 0, 2), 2);
    }

    /** "nor one with a FRAME)": 1 CALLS 2, which CALLS 1 so that it CLOSES; 1 is EMPTY then, but has a FRAME still. */
    private static void norOneWithAFrame() {
        int[] first = Acts.calledOrOrdered(Acts.row(Acts.PUSH, 0, Acts.CLOSE), Acts.join(Acts.call(0, 0, 2),
                Acts.row(Acts.POP, Acts.RETURN)));
        int[] second = Acts.join(Acts.row(Acts.PUSH, 100, Acts.PUSH, 0, Acts.PUSH, 0, Acts.PUSH, 1, Acts.CALL), make(1,
                0), RETURNS);
        Bench b = new Bench(first, second);
        b.order(1, 0, 0, 9000).block();
        Check.same("1 is gone", b.codeOf(1), -1);
        Check.same("but was not made again", b.answer(0), 3);
        b = new Bench(first, second);
        b.order(2, 0, 0, 9000).block();
        Check.same("without a FRAME it is", b.answer(0), 1);
        Check.same("with its new CODE", b.codeOf(1), 1);
        Check.same("what the heir got", b.balance(0), 1000100);
        itsOwnFrame();
    }

    /** The FRAME that runs MAKE counts as well: 1 CLOSES within its own CALL, and then makes one. */
    private static void itsOwnFrame() {
        int[] makes = Acts.join(Acts.row(Acts.GAS, Acts.PUSH, 1, Acts.PUSH, 0, Acts.SELF, Acts.CALL), make(0, 0), RETURNS);
        Bench b = new Bench(Acts.branch(Acts.row(Acts.ARGUMENT), Acts.row(Acts.PUSH, 0, Acts.CLOSE), makes));
        b.run(0, 0, 900);
        Check.same("1 is EMPTY, and 2 is made", b.answer(0), 2);
        Check.same("1 has no CODE", b.codeOf(1), -1);
    }

    /** "NONE if there is none" */
    private static void noneIfThereIsNone() {
        Bench b = new Bench(Acts.join(make(0, 10), RETURNS));
        for (int account = 2; account < 32; account++) {
            b.x.endow(account, 1, -1);
        }
        b.run(0, 0, 900).due("NONE", 0, 1, 25 + 4 + 100, -1);
        Check.same("BALANCE", b.balance(1), 100);
    }

    private static void theLastThatIsEmpty() {
        for (int free : new int[] {2, 17, 30, 31}) {
            Bench b = new Bench(Acts.join(make(0, 0), RETURNS));
            for (int account = 2; account < 32; account++) {
                if (account != free) {
                    b.x.endow(account, account % 2, account % 2 == 0 ? 0 : -1);
                }
            }
            b.order(1, 0, 0, 900).order(1, 0, 0, 900).block();
            Check.same("the only one", b.answer(0), free);
            Check.same("none is left", b.answer(1), -1);
        }
    }

    private static void none(String what, long code, long value) {
        Bench b = new Bench(Acts.join(make(code, value), RETURNS), Acts.row(Acts.STOP)).run(0, 0, 900);
        b.due(what, 0, 1, 25 + 4 + 100, -1);
        Check.same(what + ": BALANCE", b.balance(1), 100);
        Check.same(what + ": 3 is EMPTY", b.x.digest(1, 5, 3), 0);
    }

    private static void made(String what, long code, long value) {
        Bench b = new Bench(Acts.join(make(code, value), RETURNS), Acts.row(Acts.STOP)).run(0, 0, 900);
        b.due(what, 0, 1, 25 + 4 + 100, 3);
        Check.same(what + ": BALANCE", b.balance(3), value);
        Check.same(what + ": CODE", b.codeOf(3), code);
        Check.same(what + ": what is left", b.balance(1), 100 - value);
    }

    /** "the CODE is none": there are 0 and 1. */
    private static void noneIfTheCodeIsNone() {
        for (long code : new long[] {-1, 2, 15, 16, 1L << 32, (1L << 32) + 1, Long.MIN_VALUE, Long.MAX_VALUE}) {
            none("code " + code, code, 0);
        }
        made("code 0", 0, 0);
        made("code 1", 1, 0);
    }

    /** "or BALANCE is less" */
    private static void noneIfTheBalanceIsLess() {
        for (long value : new long[] {101, 1L << 32, Long.MAX_VALUE}) {
            none("value " + value, 1, value);
        }
        made("value 100", 1, 100);
        made("value 99", 1, 99);
    }

    /** "or value below 0" */
    private static void noneIfTheValueIsBelowZero() {
        for (long value : new long[] {-1, -(1L << 32), Long.MIN_VALUE}) {
            none("value " + value, 1, value);
        }
        made("value 0", 1, 0);
        made("value 1", 1, 1);
    }

    private static void aMakerOfTheBlockMayBeEmpty() {
        Bench b = new Bench(Acts.join(make(0, 5), RETURNS));
        b.x.order(0, 1, 0, 0, 900, 2, 0);
        b.x.block(0, 2);
        Check.same("it is made", b.x.receipt(1, 0, 2), 2);
        Check.same("and gets what is due", b.x.leaf(1, 64), 5 + 2 * 129);
    }

    /** "its own CODE is that one" */
    private static void becomesThatOne() {
        LedgerMachine x = new LedgerMachine();
        for (int code = 0; code < 16; code++) {
            Acts.code(x, Acts.ARGUMENT, Acts.BECOME, Acts.PUSH, 60 + code, Acts.RETURN);
        }
        x.endow(1, 0, 0);
        int[] next = {15, 1, 0, 0, 14};
        for (int i = 0; i < next.length; i++) {
            x.order(0, 1, 0, next[i], 900, 0, i);
        }
        x.block(0, 9);
        int[] due = {60, 75, 61, 60, 60};
        for (int i = 0; i < due.length; i++) {
            Check.same("order " + i, x.receipt(1, i, 2), due[i]);
        }
        Check.same("CODE", x.leaf(1, 34), 15);
    }

    /** "(FRAMES that run go on as they are)": the same FRAME, and an outer one of the ACCOUNT. */
    private static void framesThatRunGoOn() {
        Bench b = new Bench(Acts.row(Acts.PUSH, 1, Acts.BECOME, Acts.PUSH, 7, Acts.RETURN),
                Acts.row(Acts.PUSH, 8, Acts.RETURN));
        b.order(1, 0, 0, 900).order(1, 0, 0, 900).block();
        b.due("the FRAME itself", 0, 1, 25 + 1 + 40 + 1, 7);
        b.due("the next one", 1, 1, 26, 8);
        int[] called = Acts.row(Acts.PUSH, 1, Acts.BECOME);
        int[] ordered = Acts.join(Acts.call(0, 0, 1), Acts.row(Acts.POP, Acts.POP), Acts.call(0, 0, 1), Acts.BOTH);
        b = new Bench(Acts.calledOrOrdered(called, ordered), Acts.row(Acts.PUSH, 8, Acts.RETURN)).run(0, 0, 9000);
        Check.same("an outer one, which CALLS the new CODE", b.answer(0), 81);
    }

    /** "no such CODE: BROKEN": there is 0 alone. */
    private static void noSuchCodeIsBroken() {
        for (long code : new long[] {-1, 1, 16, 1L << 32, Long.MIN_VALUE, Long.MAX_VALUE}) {
            Bench b = new Bench(Acts.join(Acts.big(code), Acts.row(Acts.BECOME)));
            b.run(0, 0, 900).due("code " + code, 0, 3, 900, 0);
            Check.same("its CODE", b.codeOf(1), 0);
        }
        new Bench(Acts.row(Acts.PUSH, 0, Acts.BECOME)).run(0, 0, 900).due("code 0", 0, 1, 66, 0);
    }
}
