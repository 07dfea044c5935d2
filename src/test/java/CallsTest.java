/** Terms, 2 CODES: CALLS: what they tell, get, move, and when they fail. */
public final class CallsTest {
    private static final int[] ANSWER = Acts.row(Acts.POP, Acts.RETURN);
    private static final int[] TELLS_GAS = Acts.row(Acts.GAS, Acts.RETURN);

    public static void main(String[] args) {
        whatItEndsWithThenOneIfWell();
        theLesserOfGasAndWhatIsLeft();
        zeroIfBelowZero();
        whatIsNotUsedComesBack();
        brokenUsesItUp();
        allThatWasLeftIsUsedUp();
        withoutACode();
        noSuchAccount();
        valueBelowZero();
        valueAboveTheBalance();
        theBalanceAsItIsThen();
        gasStaysWhenItFails();
        tenFrames();
        tenFramesOfLooks();
        tenFramesOfSeveralAccounts();
        withinTenWithoutACode();
        tenFramesAgain();
        valueMoves();
        valueToItself();
        returnAndRevert();
        eachFrameHasItsOwnStack();
        Check.end();
    }

    /** "-> what it ends with, then 1 if WELL, else 0": for CALL and LOOK. */
    private static void whatItEndsWithThenOneIfWell() {
        Bench b = new Bench(
                Acts.row(Acts.ARGUMENT, Acts.RETURN),
                Acts.row(Acts.ARGUMENT, Acts.REVERT),
                Acts.row(Acts.ARGUMENT, Acts.POP, Acts.POP),
                Acts.row(Acts.ARGUMENT, Acts.STOP));
        int[] due = {51, 50, 0, 1, 1};
        for (int to = 1; to <= 5; to++) {
            for (int[] row : new int[][] {Acts.call(5, 0, to), Acts.look(5, to)}) {
                int code = Acts.code(b.x, Acts.join(row, Acts.BOTH));
                b.x.endow(10, 0, code);
                Check.same("at " + to, b.x.view(0, 0, 10, 0, 9000), due[to - 1]);
            }
        }
    }

    /** A CALL of account 1 with this gas, 440 being left then, and what is left behind it in the answer. */
    private static Bench withGas(long gas, int[] called, int[] end) {
        int[] calls = Acts.join(Acts.big(gas), Acts.row(Acts.PUSH, 0, Acts.PUSH, 0, Acts.PUSH, 1, Acts.CALL), end);
        return new Bench(called, calls).order(2, 0, 0, 500).block();
    }

    /** "The GAS that it gets is the lesser of gas .. and what is left" */
    private static void theLesserOfGasAndWhatIsLeft() {
        long[] gas = {1, 2, 439, 440, 441, 1L << 31, 1L << 32, (1L << 32) + 1, Long.MAX_VALUE};
        long[] gets = {1, 2, 439, 440, 440, 440, 440, 440, 440};
        for (int i = 0; i < gas.length; i++) {
            withGas(gas[i], TELLS_GAS, ANSWER).due("gas " + gas[i], 0, 1, 62, gets[i] - 1);
        }
    }

    /** "(0 if below 0)": nothing of it goes to the caller. */
    private static void zeroIfBelowZero() {
        for (long gas : new long[] {0, -1, -(1L << 32), Long.MIN_VALUE}) {
            withGas(gas, TELLS_GAS, Acts.row(Acts.RETURN)).due("gas " + gas, 0, 1, 60, 0);
            withGas(gas, TELLS_GAS, TELLS_GAS).due("gas " + gas, 0, 1, 61, 439);
            withGas(gas, Acts.row(Acts.STOP), Acts.row(Acts.RETURN)).due("STOP costs 0", 0, 1, 60, 1);
        }
    }

    /** "it comes back as far as it is not used" */
    private static void whatIsNotUsedComesBack() {
        withGas(100, TELLS_GAS, TELLS_GAS).due("WELL", 0, 1, 62, 438);
        withGas(100, Acts.row(Acts.GAS, Acts.REVERT), TELLS_GAS).due("UNDONE", 0, 1, 62, 438);
        withGas(100, Acts.row(Acts.STOP), TELLS_GAS).due("nothing was used", 0, 1, 61, 439);
        Bench look = new Bench(TELLS_GAS, Acts.row(Acts.PUSH, 100, Acts.PUSH, 0, Acts.PUSH, 1, Acts.LOOK, Acts.POP,
                Acts.RETURN));
        look.order(2, 0, 0, 500).block();
        look.due("a LOOK", 0, 1, 25 + 3 + 25 + 1 + 1, 99);
    }

    /** "BROKEN: ends with 0, and its GAS is used up." */
    private static void brokenUsesItUp() {
        int[] breaks = Acts.row(Acts.PUSH, 7, Acts.POP, Acts.POP);
        withGas(100, breaks, TELLS_GAS).due("of 100", 0, 1, 161, 339);
        withGas(100, breaks, Acts.BOTH).due("what it tells", 0, 1, 160 + 5, 0);
        withGas(1, Acts.big(5), TELLS_GAS).due("for want of gas", 0, 1, 62, 438);
    }

    private static void allThatWasLeftIsUsedUp() {
        int[] breaks = Acts.row(Acts.POP);
        withGas(Long.MAX_VALUE, breaks, Acts.row()).due("STOP costs 0", 0, 1, 500, 0);
        withGas(Long.MAX_VALUE, breaks, Acts.row(Acts.RETURN)).due("so does RETURN", 0, 1, 500, 0);
        withGas(Long.MAX_VALUE, breaks, Acts.row(Acts.REVERT)).due("so does REVERT", 0, 2, 500, 0);
        withGas(Long.MAX_VALUE, breaks, Acts.row(Acts.POP)).due("POP does not", 0, 3, 500, 0);
        withGas(439, breaks, Acts.row(Acts.POP)).due("but with one left", 0, 1, 500, 0);
    }

    /** "else it ends WELL with 0": its GAS comes back whole. */
    private static void withoutACode() {
        int[] calls = Acts.join(Acts.big(200), Acts.row(Acts.PUSH, 7, Acts.PUSH, 100, Acts.PUSH, 20, Acts.CALL), Acts.BOTH);
        Bench b = new Bench(calls).run(0, 0, 500);
        b.due("CALL", 0, 1, 25 + 5 + 30 + 5, 1);
        Check.same("its value", b.balance(20), 100);
        Check.same("of all it had", b.balance(1), 0);
    }

    private static void failing(String what, long value, long to) {
        int[] call = Acts.join(Acts.big(200), Acts.row(Acts.PUSH, 7), Acts.big(value), Acts.big(to),
                Acts.row(Acts.CALL), Acts.BOTH);
        Bench b = new Bench(Acts.row(Acts.ARGUMENT, Acts.RETURN), call);
        b.order(2, 0, 0, 900).block();
        b.due(what, 0, 1, 25 + 7 + 30 + 5, 0);
        Check.same(what + ": BALANCE", b.balance(2), 100);
        Check.same(what + ": BALANCE of 1", b.balance(1), 100);
    }

    /** "It fails .. when there is no such ACCOUNT" */
    private static void noSuchAccount() {
        for (long to : new long[] {-1, 32, 33, 1L << 32, (1L << 32) + 1, Long.MIN_VALUE, Long.MAX_VALUE}) {
            failing("to " + to, 0, to);
            int[] look = Acts.join(Acts.big(200), Acts.row(Acts.PUSH, 7), Acts.big(to), Acts.row(Acts.LOOK), Acts.BOTH);
            Bench b = new Bench(look).run(0, 0, 900);
            b.due("LOOK at " + to, 0, 1, 25 + 5 + 25 + 5, 0);
        }
        for (int to : new int[] {0, 31}) {
            Bench b = new Bench(Acts.join(Acts.call(0, 4, to), Acts.row(Acts.RETURN)));
            b.run(0, 0, 900).due("to " + to, 0, 1, 25 + 35, 1);
        }
    }

    /** "value is below 0" */
    private static void valueBelowZero() {
        for (long value : new long[] {-1, -100, -(1L << 32), Long.MIN_VALUE}) {
            failing("value " + value, value, 1);
            failing("value " + value + " without a CODE", value, 20);
        }
    }

    /** "or above the caller's BALANCE" */
    private static void valueAboveTheBalance() {
        for (long value : new long[] {101, 1L << 32, (1L << 32) + 1, Long.MAX_VALUE}) {
            failing("value " + value, value, 1);
            failing("value " + value + " without a CODE", value, 20);
            failing("value " + value + " to itself", value, 2);
        }
        for (int value : new int[] {0, 1, 99, 100}) {
            Bench b = new Bench(Acts.row(Acts.VALUE, Acts.RETURN), Acts.join(Acts.call(0, value, 1), ANSWER));
            b.order(2, 0, 0, 900).block();
            Check.same("value " + value, b.answer(0), value);
            Check.same("what is left", b.balance(2), 100 - value);
        }
        LedgerMachine x = new LedgerMachine();
        Acts.code(x, Acts.join(Acts.call(0, 0, 20), Acts.row(Acts.RETURN)));
        x.endow(1, 0, 0);
        Check.same("value 0 of 0", x.view(0, 0, 1, 0, 900), 1);
    }

    /** What the CALLS before it moved counts, and so does the value that it got itself. */
    private static void theBalanceAsItIsThen() {
        int[] twice = Acts.join(Acts.call(0, 60, 20), Acts.call(0, 50, 20), Acts.row(Acts.PUSH, 10, Acts.MUL, Acts.ADD,
                Acts.ADD, Acts.RETURN));
        Bench b = new Bench(twice);
        b.order(1, 9, 0, 900).block();
        Check.same("60 of 109, then 50 of 49", b.answer(0), 1);
        Check.same("what moved", b.balance(20), 60);
        b.order(1, 61, 0, 900).block();
        Check.same("60 of 110, then 50 of 50", b.answer(0), 11);
        Check.same("what moved", b.balance(20), 170);
    }

    /** "(ends UNDONE with 0, the GAS stays with the caller)": with all its gas, and with 0 to give. */
    private static void gasStaysWhenItFails() {
        int[] all = Acts.row(Acts.GAS, Acts.PUSH, 0, Acts.PUSH, 0, Acts.PUSH, 32, Acts.CALL, Acts.GAS, Acts.RETURN);
        new Bench(all).run(0, 0, 500).due("all of it", 0, 1, 25 + 4 + 30 + 1, 440);
        new Bench(all).run(0, 0, 60).due("none", 0, 1, 60, 0);
    }

    /** "there are 10 FRAMES within one another already": the tenth is run, an eleventh is not. */
    private static void tenFrames() {
        int[] deeper = Acts.row(Acts.GAS, Acts.PUSH, 0, Acts.PUSH, 0, Acts.SELF, Acts.CALL, Acts.ADD, Acts.RETURN);
        Bench b = new Bench(deeper).run(0, 0, 3000);
        b.due("nine CALLS go WELL", 0, 1, 25 + 10 * 35, 9);
        b.x.view(0, 0, 1, 0, 3000);
        Check.same("FRAMES of a view", b.x.seen(2), 10);
    }

    private static void tenFramesOfLooks() {
        int[] deeper = Acts.row(Acts.GAS, Acts.PUSH, 0, Acts.SELF, Acts.LOOK, Acts.ADD, Acts.RETURN);
        Bench b = new Bench(deeper).run(0, 0, 3000);
        b.due("nine LOOKS go WELL", 0, 1, 25 + 10 * 29, 9);
        b.x.view(0, 0, 1, 0, 3000);
        Check.same("FRAMES of a view", b.x.seen(2), 10);
    }

    /** 1 CALLS 2, which LOOKS at 1, and so on: FRAMES of all ACCOUNTS count. */
    private static void tenFramesOfSeveralAccounts() {
        int[] first = Acts.row(Acts.GAS, Acts.PUSH, 0, Acts.PUSH, 0, Acts.PUSH, 2, Acts.CALL, Acts.ADD, Acts.RETURN);
        int[] second = Acts.row(Acts.GAS, Acts.PUSH, 0, Acts.PUSH, 1, Acts.LOOK, Acts.ADD, Acts.RETURN);
        Bench b = new Bench(first, second).run(0, 0, 3000);
        b.due("five of each", 0, 1, 25 + 5 * (35 + 29), 9);
    }

    /** The CALL of one without a CODE fails within ten FRAMES as well. */
    private static void withinTenWithoutACode() {
        int[] less = Acts.row(Acts.ARGUMENT, Acts.PUSH, 1, Acts.SUB, Acts.DUP, 0);
        int[] callNobody = Acts.row(Acts.PUSH, 0, Acts.PUSH, 0, Acts.PUSH, 1, Acts.PUSH, 20, Acts.CALL, Acts.RETURN);
        int[] callSelf = Acts.join(Acts.big(30000), Acts.row(Acts.SWAP, 1, Acts.PUSH, 0, Acts.SELF, Acts.CALL,
                Acts.POP, Acts.RETURN));
        Bench b = new Bench(Acts.branch(less, callSelf, callNobody));
        b.order(1, 0, 9, 3000).order(1, 0, 10, 3000).order(1, 0, 11, 3000).block();
        Check.same("within nine FRAMES", b.answer(0), 1);
        Check.same("within ten", b.answer(1), 0);
        Check.same("BALANCE of that one", b.balance(20), 1);
    }

    /** FRAMES that have ended do not count. */
    private static void tenFramesAgain() {
        int[] deeper = Acts.row(Acts.GAS, Acts.PUSH, 0, Acts.PUSH, 0, Acts.SELF, Acts.CALL, Acts.ADD, Acts.RETURN);
        int[] twice = Acts.join(Acts.call(0, 0, 1), Acts.row(Acts.POP), Acts.call(0, 0, 1), Acts.row(Acts.POP,
                Acts.PUSH, 10, Acts.MUL, Acts.ADD, Acts.RETURN));
        Bench b = new Bench(deeper, twice);
        b.order(2, 0, 0, 9000).block();
        Check.same("eight CALLS within the second, twice", b.answer(0), 88);
    }

    /** "with value from the caller's BALANCE to its" */
    private static void valueMoves() {
        int[] gives = Acts.join(Acts.call(0, 60, 1), Acts.call(0, 40, 20), Acts.row(Acts.POP, Acts.POP), ANSWER);
        Bench b = new Bench(Acts.row(Acts.SELF, Acts.BALANCE, Acts.RETURN), gives);
        b.order(2, 0, 0, 9000).block();
        Check.same("it has it when it runs", b.answer(0), 160);
        Check.same("all of it", b.balance(2), 0);
        Check.same("to a CODE", b.balance(1), 160);
        Check.same("to one without", b.balance(20), 40);
    }

    private static void valueToItself() {
        for (int value : new int[] {0, 50, 100}) {
            int[] again = Acts.row(Acts.PUSH, 100, Acts.PUSH, 0, Acts.PUSH, value, Acts.SELF, Acts.CALL, Acts.RETURN);
            Bench b = new Bench(Acts.calledOrOrdered(Acts.row(Acts.VALUE, Acts.RETURN), again));
            b.order(1, 0, 0, 900).block();
            Check.same("value " + value, b.answer(0), 1);
            Check.same("BALANCE", b.balance(1), 100);
        }
    }

    /** "ends WELL with v", "ends UNDONE with v": at both ends of a long. */
    private static void returnAndRevert() {
        for (int end : new int[] {Acts.RETURN, Acts.REVERT}) {
            int[] calls = Acts.row(Acts.GAS, Acts.ARGUMENT, Acts.PUSH, 0, Acts.PUSH, 1, Acts.CALL, Acts.POP, Acts.RETURN);
            Bench b = new Bench(Acts.row(Acts.ARGUMENT, end, Acts.POP), calls);
            long[] with = {0, -1, Long.MIN_VALUE, Long.MAX_VALUE};
            for (long v : with) {
                b.order(1, 0, v, 500).order(2, 0, v, 500);
            }
            b.block();
            for (int i = 0; i < with.length; i++) {
                b.due("of an ORDER", 2 * i, end == Acts.RETURN ? 1 : 2, 26, with[i]);
                Check.same("of a CALL", b.answer(2 * i + 1), with[i]);
            }
        }
    }

    /** A FRAME begins with nothing on its STACK, whatever the one before it left, and its caller's is as it was. */
    private static void eachFrameHasItsOwnStack() {
        int[] leaves = Acts.repeat(24, Acts.PUSH, 5);
        int[] second = Acts.row(Acts.PUSH, 50, Acts.PUSH, 0, Acts.PUSH, 0, Acts.PUSH, 2, Acts.CALL);
        int[] outer = Acts.join(Acts.row(Acts.PUSH, 77), Acts.call(0, 0, 1), Acts.row(Acts.POP, Acts.POP), second,
                Acts.row(Acts.JUMPIF, 0, Acts.POP, Acts.RETURN));
        Bench b = new Bench(leaves, Acts.row(Acts.POP), outer);
        b.order(3, 0, 0, 9000).block();
        b.due("the second is BROKEN", 0, 1, 25 + 1 + 35 + 24 + 2 + 34 + 50 + 3, 77);
    }
}
