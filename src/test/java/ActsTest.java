/** Terms, 2 CODES: the STACK, what ACTS cost, and the ACTS that stay within their own FRAME. */
public final class ActsTest {
    private static final int[] COST = {
        0, 1, 2, 1, 1, 1, 1, 1, 2, 3, 3, 1, 1, 1, 1, 1, 1, 1, 1, 2,
        2, 10, 20, 1, 1, 1, 1, 1, 1, 1, 5, 30, 25, 100, 40, 15, 0, 0, 20, 3};
    private static final int[] TAKES = {
        0, 0, 0, 1, 1, 1, 2, 2, 2, 2, 2, 2, 2, 2, 2, 2, 2, 2, 1, 0,
        1, 1, 2, 0, 0, 0, 0, 0, 0, 0, 1, 4, 3, 2, 1, 2, 1, 1, 1, 0};
    private static final int[] GIVES = {
        0, 1, 1, 0, 2, 1, 1, 1, 1, 1, 1, 1, 1, 1, 1, 1, 1, 1, 1, 0,
        0, 1, 0, 1, 1, 1, 1, 1, 1, 1, 1, 2, 2, 1, 0, 0, 0, 0, 0, 0};
    private static final long LEAST = Long.MIN_VALUE;
    private static final long MOST = Long.MAX_VALUE;

    public static void main(String[] args) {
        costIsTakenBefore();
        tooLittleOnTheStack();
        whatIsTakenAndWhatComes();
        atMostTwentyFourNumbers();
        whatLeavesNoMoreIsFineWithTwentyFour();
        behindTheLastActIsStop();
        push();
        big();
        pop();
        dup();
        swap();
        addSubMul();
        divRem();
        andOrXor();
        shifts();
        lessSameNot();
        jump();
        jumpIf();
        Check.end();
    }

    private static int[] behind(int act) {
        if (act == Acts.BIG) {
            return new int[8];
        }
        boolean hasOne = act == Acts.PUSH || act == Acts.DUP || act == Acts.SWAP || act == Acts.JUMP || act == Acts.JUMPIF;
        return new int[hasOne ? 1 : 0];
    }

    private static boolean leavesOneMore(int act) {
        return act == Acts.PUSH || act == Acts.BIG || act == Acts.DUP || act >= Acts.SELF && act <= Acts.GAS;
    }

    private static boolean endsTheFrame(int act) {
        return act == Acts.STOP || act >= Acts.RETURN && act <= Acts.CLOSE;
    }

    /** "Before an ACT its COST is taken; when there is less GAS .. BROKEN." */
    private static void costIsTakenBefore() {
        for (int act = 0; act < 40; act++) {
            if (act == Acts.JUMP) {
                continue;
            }
            int number = act == Acts.DIV || act == Acts.REM || act == Acts.CLOSE ? 2 : 0;
            int[] end = endsTheFrame(act) ? Acts.row() : Acts.row(Acts.STOP);
            int[] octets = Acts.join(Acts.repeat(TAKES[act], Acts.PUSH, number), Acts.row(act), behind(act), end);
            int gas = 25 + TAKES[act] + COST[act];
            int ending = act == Acts.REVERT ? 2 : 1;
            new Bench(octets).run(0, 0, gas).due("ACT " + act, 0, ending, gas, 0);
            new Bench(octets).run(0, 0, gas + 1).due("ACT " + act + " with 1 more", 0, ending, gas, 0);
            if (COST[act] > 0) {
                new Bench(octets).run(0, 0, gas - 1).due("ACT " + act + " with 1 less", 0, 3, gas - 1, 0);
            }
        }
        int[] jumps = Acts.row(Acts.JUMP, 3, Acts.POP, Acts.STOP);
        new Bench(jumps).run(0, 0, 27).due("JUMP", 0, 1, 27, 0);
        new Bench(jumps).run(0, 0, 26).due("JUMP with 1 less", 0, 3, 26, 0);
    }

    /** "too little .. would be on the STACK": with each number that is less than an ACT takes. */
    private static void tooLittleOnTheStack() {
        for (int act = 0; act < 40; act++) {
            for (int there = 0; there < TAKES[act]; there++) {
                int[] octets = Acts.join(Acts.repeat(there, Acts.PUSH, 2), Acts.row(act), behind(act));
                new Bench(octets).run(0, 0, 1000).due("ACT " + act + " with " + there, 0, 3, 1000, 0);
            }
        }
    }

    /** What is below an ACT's numbers is on top when what came is taken away; when one more is, nothing is there. */
    private static void whatIsTakenAndWhatComes() {
        for (int act = 0; act < 40; act++) {
            if (endsTheFrame(act) || act == Acts.JUMP || act == Acts.JUMPIF) {
                continue;
            }
            int number = act == Acts.DIV || act == Acts.REM ? 2 : 0;
            int[] octets = Acts.join(Acts.row(Acts.PUSH, 99), Acts.repeat(TAKES[act], Acts.PUSH, number), Acts.row(act),
                    behind(act), Acts.repeat(GIVES[act], Acts.POP));
            Check.same("below ACT " + act, answer(octets), 99);
            broken("nothing below that", Acts.join(octets, Acts.row(Acts.POP, Acts.RETURN)));
        }
    }

    /** "a STACK of at most 24 numbers", "too much would be on the STACK" */
    private static void atMostTwentyFourNumbers() {
        for (int act = 0; act < 40; act++) {
            if (leavesOneMore(act)) {
                int[] one = Acts.join(Acts.row(act), behind(act));
                Bench b = new Bench(Acts.join(Acts.repeat(23, Acts.PUSH, 1), one)).run(0, 0, 1000);
                b.due("ACT " + act + " makes 24", 0, 1, 25 + 23 + COST[act], 0);
                b = new Bench(Acts.join(Acts.repeat(24, Acts.PUSH, 1), one)).run(0, 0, 1000);
                b.due("ACT " + act + " makes 25", 0, 3, 1000, 0);
            }
        }
    }

    private static void whatLeavesNoMoreIsFineWithTwentyFour() {
        for (int act = 0; act < 40; act++) {
            int[] octets = Acts.join(Acts.repeat(24, Acts.PUSH, 2), Acts.row(act), behind(act));
            if (act == Acts.JUMP || act == Acts.JUMPIF) {
                octets[49] = 50;
                octets = Acts.join(octets, Acts.row(Acts.STOP));
            }
            Bench b = new Bench(octets, Acts.row(Acts.STOP), Acts.row(Acts.STOP)).run(0, 0, 1000);
            Check.same("ACT " + act + " with 24", b.ending(0), leavesOneMore(act) ? 3 : act == Acts.REVERT ? 2 : 1);
        }
    }

    /** "Behind the last ACT: STOP." */
    private static void behindTheLastActIsStop() {
        new Bench(Acts.row(Acts.PUSH, 9)).run(0, 0, 26).due("behind PUSH", 0, 1, 26, 0);
        new Bench(Acts.big(9)).run(0, 0, 27).due("behind BIG", 0, 1, 27, 0);
        new Bench(Acts.row(Acts.LOCK)).run(0, 0, 28).due("behind LOCK", 0, 1, 28, 0);
        new Bench(Acts.row(Acts.PUSH, 0, Acts.JUMPIF, 0)).run(0, 0, 28).due("behind JUMPIF", 0, 1, 28, 0);
        int[] most = Acts.repeat(100, Acts.LOCK, Acts.LOCK);
        new Bench(most).run(0, 0, 1000).due("behind 200 octets", 0, 1, 25 + 600, 0);
        int[] last = Acts.join(new int[198], Acts.row(Acts.PUSH, 5));
        last[0] = Acts.JUMP;
        last[1] = 198;
        new Bench(last).run(0, 0, 100).due("behind a PUSH at 198", 0, 1, 28, 0);
    }

    private static long answer(int... octets) {
        Bench b = new Bench(Acts.join(octets, Acts.row(Acts.RETURN))).run(0, 0, 1000);
        Check.same("how it ends", b.ending(0), 1);
        return b.answer(0);
    }

    private static void broken(String what, int... octets) {
        new Bench(octets).run(0, 0, 500).due(what, 0, 3, 500, 0);
    }

    /** "-> the octet, -128 .. 127" */
    private static void push() {
        for (int octet = 0; octet < 256; octet++) {
            Check.same("PUSH " + octet, answer(Acts.PUSH, octet), octet < 128 ? octet : octet - 256);
        }
    }

    /** "8 octets, highest first" */
    private static void big() {
        for (long number : new long[] {0, 1, -1, 255, 256, 0x0123456789ABCDEFL, 0xFEDCBA9876543210L, LEAST, MOST}) {
            Check.same("BIG " + number, answer(Acts.big(number)), number);
        }
    }

    private static void pop() {
        Check.same("POP", answer(Acts.PUSH, 7, Acts.PUSH, 8, Acts.POP), 7);
        broken("POP of nothing", Acts.POP);
        broken("a second POP", Acts.PUSH, 7, Acts.POP, Acts.POP);
    }

    /** As many PUSHES: 1 at the bottom. */
    private static int[] numbers(int many) {
        int[] octets = Acts.row();
        for (int number = 1; number <= many; number++) {
            octets = Acts.join(octets, Acts.row(Acts.PUSH, number));
        }
        return octets;
    }

    /** "what is n below the top (0: the top)" */
    private static void dup() {
        for (int many = 1; many <= 23; many++) {
            for (int n : new int[] {0, many / 2, many - 1}) {
                Check.same("DUP " + n + " of " + many, answer(Acts.join(numbers(many), Acts.row(Acts.DUP, n))), many - n);
            }
            broken("DUP " + many + " of " + many, Acts.join(numbers(many), Acts.row(Acts.DUP, many)));
        }
        for (int n : new int[] {0, 1, 24, 127, 128, 255}) {
            broken("DUP " + n + " of none", Acts.DUP, n);
        }
        for (int n : new int[] {23, 24, 127, 128, 254, 255}) {
            broken("DUP " + n + " of 23", Acts.join(numbers(23), Acts.row(Acts.DUP, n)));
        }
        broken("DUP 0 of 24", Acts.join(numbers(24), Acts.row(Acts.DUP, 0)));
        Check.same("what was on top stays", answer(Acts.join(numbers(3), Acts.row(Acts.DUP, 2, Acts.POP))), 3);
    }

    /** "the top and what is n below it change places" */
    private static void swap() {
        for (int many = 1; many <= 24; many++) {
            for (int n : new int[] {0, many / 2, many - 1}) {
                int[] swapped = Acts.join(numbers(many), Acts.row(Acts.SWAP, n));
                Check.same("SWAP " + n + " of " + many, answer(swapped), many - n);
                int[] below = Acts.join(swapped, Acts.repeat(n, Acts.POP));
                Check.same("what is there then", answer(below), many);
            }
            broken("SWAP " + many + " of " + many, Acts.join(numbers(many), Acts.row(Acts.SWAP, many)));
        }
        for (int n : new int[] {0, 1, 24, 127, 128, 255}) {
            broken("SWAP " + n + " of none", Acts.SWAP, n);
        }
        for (int n : new int[] {24, 127, 128, 254, 255}) {
            broken("SWAP " + n + " of 24", Acts.join(numbers(24), Acts.row(Acts.SWAP, n)));
        }
        Check.same("what is between stays", answer(Acts.join(numbers(3), Acts.row(Acts.SWAP, 2, Acts.POP))), 2);
    }

    private static void two(int act, long a, long b, long due) {
        int[] octets = Acts.join(Acts.big(a), Acts.big(b), Acts.row(act));
        Check.same("ACT " + act + " of " + a + ", " + b, answer(octets), due);
    }

    /** "Numbers are longs that wrap" */
    private static void addSubMul() {
        two(Acts.ADD, 5, 3, 8);
        two(Acts.ADD, MOST, 1, LEAST);
        two(Acts.ADD, LEAST, -1, MOST);
        two(Acts.ADD, LEAST, LEAST, 0);
        two(Acts.SUB, 5, 3, 2);
        two(Acts.SUB, LEAST, 1, MOST);
        two(Acts.SUB, MOST, -1, LEAST);
        two(Acts.SUB, 0, LEAST, LEAST);
        two(Acts.MUL, -5, 3, -15);
        two(Acts.MUL, MOST, MOST, 1);
        two(Acts.MUL, LEAST, -1, LEAST);
        two(Acts.MUL, 1L << 32, 1L << 32, 0);
    }

    /** "(3; by 0: BROKEN)", and the one quotient that wraps. */
    private static void divRem() {
        two(Acts.DIV, 7, 2, 3);
        two(Acts.DIV, -7, 2, -3);
        two(Acts.DIV, 7, -2, -3);
        two(Acts.DIV, LEAST, -1, LEAST);
        two(Acts.DIV, LEAST, 1, LEAST);
        two(Acts.DIV, 0, 5, 0);
        two(Acts.REM, -7, 2, -1);
        two(Acts.REM, 7, -4, 3);
        two(Acts.REM, LEAST, -1, 0);
        for (int act : new int[] {Acts.DIV, Acts.REM}) {
            for (int number : new int[] {0, 1, -1}) {
                broken(number + " by 0", Acts.PUSH, number, Acts.PUSH, 0, act);
                broken(number + " by 0 above others", Acts.PUSH, 8, Acts.PUSH, number, Acts.PUSH, 0, act, Acts.RETURN);
            }
        }
    }

    private static void andOrXor() {
        two(Acts.AND, 12, 10, 8);
        two(Acts.AND, -1, LEAST, LEAST);
        two(Acts.OR, 12, 10, 14);
        two(Acts.OR, MOST, LEAST, -1);
        two(Acts.XOR, 12, 10, 6);
        two(Acts.XOR, -1, -1, 0);
    }

    /** "a moved by b's lowest six bits (SHR with the sign)" */
    private static void shifts() {
        long[] by = {0, 1, 62, 63, 64, 65, 127, 128, -1, -63, -64, 1L << 32, LEAST, MOST};
        int[] lowest = {0, 1, 62, 63, 0, 1, 63, 0, 63, 1, 0, 0, 0, 63};
        for (int i = 0; i < by.length; i++) {
            long left = 3;
            for (int bit = 0; bit < lowest[i]; bit++) {
                left *= 2;
            }
            two(Acts.SHL, 3, by[i], left);
            two(Acts.SHR, LEAST, by[i], lowest[i] == 63 ? -1 : LEAST / (1L << lowest[i]));
            two(Acts.SHR, MOST, by[i], lowest[i] == 63 ? 0 : MOST / (1L << lowest[i]));
        }
        two(Acts.SHR, -1, 63, -1);
        two(Acts.SHR, -3, 1, -2);
    }

    /** "1 when a is less than b, or the same, else 0", "1 when a is 0, else 0" */
    private static void lessSameNot() {
        two(Acts.LESS, -1, 0, 1);
        two(Acts.LESS, 0, 0, 0);
        two(Acts.LESS, 1, 0, 0);
        two(Acts.LESS, 0, 1, 1);
        two(Acts.LESS, LEAST, MOST, 1);
        two(Acts.LESS, MOST, LEAST, 0);
        two(Acts.SAME, 4, 4, 1);
        two(Acts.SAME, 4, 5, 0);
        two(Acts.SAME, 5, 4, 0);
        two(Acts.SAME, 1L << 32, 0, 0);
        for (long number : new long[] {1, -1, 1L << 32, LEAST, MOST}) {
            Check.same("NOT " + number, answer(Acts.join(Acts.big(number), Acts.row(Acts.NOT))), 0);
        }
        Check.same("NOT 0", answer(Acts.PUSH, 0, Acts.NOT), 1);
    }

    /** "on at place p": p is 0 .. 255 without a sign. */
    private static void jump() {
        for (int place : new int[] {3, 126, 127, 128, 129, 197}) {
            int[] octets = Acts.join(Acts.row(Acts.JUMP, place, Acts.POP), Acts.repeat(place - 3, Acts.POP),
                    Acts.row(Acts.PUSH, 3, Acts.RETURN));
            new Bench(octets).run(0, 0, 500).due("JUMP " + place, 0, 1, 28, 3);
        }
        new Bench(Acts.row(Acts.JUMP, 0)).run(0, 0, 30000).due("without an end", 0, 3, 30000, 0);
    }

    /** "the same if a is not 0" */
    private static void jumpIf() {
        int[] either = Acts.row(Acts.ARGUMENT, Acts.JUMPIF, 6, Acts.PUSH, 4, Acts.RETURN, Acts.PUSH, 5, Acts.RETURN);
        long[] numbers = {0, 1, -1, 1L << 32, LEAST, MOST};
        Bench b = new Bench(either);
        for (long number : numbers) {
            b.order(1, 0, number, 500);
        }
        b.block();
        for (int i = 0; i < numbers.length; i++) {
            b.due("JUMPIF of " + numbers[i], i, 1, 29, numbers[i] == 0 ? 4 : 5);
        }
        b = new Bench(Acts.row(Acts.PUSH, 9, Acts.ARGUMENT, Acts.JUMPIF, 6, Acts.RETURN, Acts.RETURN));
        b.order(1, 0, 0, 500).order(1, 0, 1, 500).block();
        b.due("a is taken when it is 0", 0, 1, 29, 9);
        b.due("and when it is not", 1, 1, 29, 9);
    }
}
