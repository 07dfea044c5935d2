/** Terms, 2 CODES: each ACT alone: what it takes and gives, its cost, and where it is BROKEN. */
public final class ActsTest {
    private static final int[] COST = {
        0, 1, 2, 1, 1, 1, 1, 1, 2, 3, 3, 1, 1, 1, 1, 1, 1, 1, 1, 2,
        2, 10, 20, 1, 1, 1, 1, 1, 1, 1, 5, 30, 25, 100, 40, 15, 0, 0, 20, 3};
    private static final int[] TAKES = {
        0, 0, 0, 1, 1, 1, 2, 2, 2, 2, 2, 2, 2, 2, 2, 2, 2, 2, 1, 0,
        1, 1, 2, 0, 0, 0, 0, 0, 0, 0, 1, 4, 3, 2, 1, 2, 1, 1, 1, 0};

    public static void main(String[] args) {
        costsAndTakes();
        tooMuch();
        numbers();
        arithmetic();
        stackActs();
        jumps();
        cells();
        knowledge();
        Check.end();
    }

    private static int[] behind(int act) {
        if (act == Acts.BIG) {
            return new int[8];
        }
        if (act == Acts.JUMP || act == Acts.JUMPIF) {
            return Acts.row(0);
        }
        return act == Acts.PUSH || act == Acts.DUP || act == Acts.SWAP ? Acts.row(0) : Acts.row();
    }

    /** With as many numbers as it takes and its cost it is not BROKEN; with one less of either it is. */
    private static void costsAndTakes() {
        for (int act = 0; act < 40; act++) {
            if (act == Acts.JUMP) {
                continue;
            }
            int number = act == Acts.DIV || act == Acts.REM || act == Acts.CLOSE ? 2 : 0;
            int[] end = act == Acts.STOP || act >= Acts.RETURN && act <= Acts.CLOSE ? Acts.row() : Acts.row(Acts.STOP);
            int[] fits = Acts.join(Acts.repeat(TAKES[act], Acts.PUSH, number), Acts.row(act), behind(act), end);
            int gas = 25 + TAKES[act] + COST[act];
            Bench b = new Bench(fits).run(0, 0, gas);
            b.due("ACT " + act, 0, act == Acts.REVERT ? 2 : 1, gas, 0);
            if (gas > 25 + TAKES[act]) {
                b = new Bench(fits).run(0, 0, gas - 1);
                b.due("ACT " + act + " with less gas", 0, 3, gas - 1, 0);
            }
            if (TAKES[act] > 0) {
                int[] less = Acts.join(Acts.repeat(TAKES[act] - 1, Acts.PUSH, number), Acts.row(act), behind(act));
                b = new Bench(less).run(0, 0, 1000);
                b.due("ACT " + act + " with too little", 0, 3, 1000, 0);
            }
        }
        new Bench(Acts.row(Acts.JUMP, 3, Acts.POP, Acts.STOP)).run(0, 0, 27).due("JUMP", 0, 1, 27, 0);
        new Bench(Acts.row(Acts.JUMP, 3, Acts.POP, Acts.STOP)).run(0, 0, 26).due("JUMP with less", 0, 3, 26, 0);
    }

    private static void tooMuch() {
        for (int act : new int[] {Acts.PUSH, Acts.BIG, Acts.DUP, Acts.SELF, Acts.CALLER, Acts.ORIGIN, Acts.VALUE,
            Acts.ARGUMENT, Acts.HEIGHT, Acts.GAS}) {
            int[] one = Acts.join(Acts.row(act), behind(act));
            Bench b = new Bench(Acts.join(Acts.repeat(23, Acts.PUSH, 1), one)).run(0, 0, 1000);
            Check.same("ACT " + act + " makes 24", b.ending(0), 1);
            b = new Bench(Acts.join(Acts.repeat(24, Acts.PUSH, 1), one)).run(0, 0, 1000);
            b.due("ACT " + act + " makes 25", 0, 3, 1000, 0);
        }
        int[] full = Acts.repeat(24, Acts.PUSH, 2);
        for (int act = 0; act < 40; act++) {
            boolean leavesMore = act == Acts.PUSH || act == Acts.BIG || act == Acts.DUP || act >= Acts.SELF && act <= Acts.GAS;
            int[] octets = Acts.join(full, Acts.row(act), behind(act));
            if (act == Acts.JUMP || act == Acts.JUMPIF) {
                octets[49] = 50;
                octets = Acts.join(octets, Acts.row(Acts.STOP));
            }
            Bench b = new Bench(octets, Acts.row(Acts.STOP), Acts.row(Acts.STOP)).run(0, 0, 1000);
            Check.same("ACT " + act + " with 24", b.ending(0), leavesMore ? 3 : act == Acts.REVERT ? 2 : 1);
        }
    }

    private static long answer(int... octets) {
        Bench b = new Bench(Acts.join(octets, Acts.row(Acts.RETURN))).run(0, 0, 1000);
        Check.same("how it ends", b.ending(0), 1);
        return b.answer(0);
    }

    private static void numbers() {
        Check.same("PUSH 127", answer(Acts.PUSH, 127), 127);
        Check.same("PUSH 128", answer(Acts.PUSH, 128), -128);
        Check.same("PUSH 255", answer(Acts.PUSH, 255), -1);
        Check.same("BIG", answer(Acts.big(0xFEDCBA9876543210L)), 0xFEDCBA9876543210L);
        Check.same("BIG 1", answer(Acts.big(1)), 1);
    }

    private static void two(int act, long a, long b, long due) {
        int[] octets = Acts.join(Acts.big(a), Acts.big(b), Acts.row(act));
        Check.same("ACT " + act + " of " + a + ", " + b, answer(octets), due);
    }

    private static void arithmetic() {
        long least = Long.MIN_VALUE;
        long most = Long.MAX_VALUE;
        two(Acts.ADD, 5, 3, 8);
        two(Acts.ADD, most, 1, least);
        two(Acts.SUB, 5, 3, 2);
        two(Acts.SUB, least, 1, most);
        two(Acts.MUL, -5, 3, -15);
        two(Acts.MUL, most, most, 1);
        two(Acts.DIV, -7, 2, -3);
        two(Acts.DIV, least, -1, least);
        two(Acts.REM, -7, 2, -1);
        two(Acts.REM, 7, -4, 3);
        two(Acts.REM, least, -1, 0);
        two(Acts.AND, 12, 10, 8);
        two(Acts.OR, 12, 10, 14);
        two(Acts.XOR, 12, 10, 6);
        two(Acts.SHL, 3, 65, 6);
        two(Acts.SHL, 1, 63, least);
        two(Acts.SHR, -8, 1, -4);
        two(Acts.SHR, 8, -63, 4);
        two(Acts.SHR, least, 63, -1);
        two(Acts.LESS, -1, 0, 1);
        two(Acts.LESS, 0, 0, 0);
        two(Acts.LESS, 1, 0, 0);
        two(Acts.LESS, least, most, 1);
        two(Acts.SAME, 4, 4, 1);
        two(Acts.SAME, 4, 5, 0);
        Check.same("NOT 0", answer(Acts.PUSH, 0, Acts.NOT), 1);
        Check.same("NOT -3", answer(Acts.PUSH, -3, Acts.NOT), 0);
        for (int act : new int[] {Acts.DIV, Acts.REM}) {
            Bench b = new Bench(Acts.row(Acts.PUSH, 1, Acts.PUSH, 0, act, Acts.RETURN)).run(0, 0, 500);
            b.due("by 0", 0, 3, 500, 0);
        }
    }

    private static void stackActs() {
        int[] three = Acts.row(Acts.PUSH, 7, Acts.PUSH, 8, Acts.PUSH, 9);
        Check.same("POP", answer(Acts.join(three, Acts.row(Acts.POP))), 8);
        Check.same("DUP 0", answer(Acts.join(three, Acts.row(Acts.DUP, 0, Acts.ADD))), 18);
        Check.same("DUP 2", answer(Acts.join(three, Acts.row(Acts.DUP, 2))), 7);
        Check.same("SWAP 2", answer(Acts.join(three, Acts.row(Acts.SWAP, 2))), 7);
        Check.same("below SWAP 2", answer(Acts.join(three, Acts.row(Acts.SWAP, 2, Acts.POP))), 8);
        Check.same("lowest behind SWAP 2", answer(Acts.join(three, Acts.row(Acts.SWAP, 2, Acts.POP, Acts.POP))), 9);
        Check.same("SWAP 0", answer(Acts.join(three, Acts.row(Acts.SWAP, 0))), 9);
        Check.same("SWAP 0 of one", answer(Acts.PUSH, 4, Acts.SWAP, 0), 4);
        for (int act : new int[] {Acts.DUP, Acts.SWAP}) {
            for (int n : new int[] {3, 24, 128, 255}) {
                Bench b = new Bench(Acts.join(three, Acts.row(act, n))).run(0, 0, 500);
                b.due("ACT " + act + " of " + n, 0, 3, 500, 0);
            }
        }
    }

    private static void jumps() {
        int[] either = Acts.row(Acts.ARGUMENT, Acts.JUMPIF, 6, Acts.PUSH, 4, Acts.RETURN, Acts.PUSH, 5, Acts.RETURN);
        Bench b = new Bench(either).order(1, 0, 0, 500).order(1, 0, 1, 500).order(1, 0, Long.MIN_VALUE, 500).block();
        b.due("JUMPIF 0", 0, 1, 29, 4);
        b.due("JUMPIF 1", 1, 1, 29, 5);
        b.due("JUMPIF of the least", 2, 1, 29, 5);
        int[] far = Acts.join(Acts.row(Acts.JUMP, 197, Acts.RETURN), Acts.repeat(194, Acts.POP), Acts.row(Acts.PUSH, 3, Acts.RETURN));
        new Bench(far).run(0, 0, 500).due("JUMP beyond 127", 0, 1, 28, 3);
        new Bench(Acts.row(Acts.JUMP, 0)).run(0, 0, 30000).due("without an end", 0, 3, 30000, 0);
        new Bench(Acts.row(Acts.PUSH, 9)).run(0, 0, 26).due("behind the last ACT", 0, 1, 26, 0);
    }

    private static void cells() {
        new Bench(Acts.store(3, 5)).run(0, 0, 500).due("from 0", 0, 1, 25 + 62, 0);
        new Bench(Acts.store(3, 5)).run(0, 0, 25 + 62).due("with just the gas", 0, 1, 25 + 62, 0);
        new Bench(Acts.store(3, 5)).run(0, 0, 25 + 61).due("with less gas", 0, 3, 25 + 61, 0);
        new Bench(Acts.store(3, 0)).run(0, 0, 500).due("0 over 0", 0, 1, 25 + 22, 0);
        new Bench(Acts.join(Acts.store(3, 5), Acts.store(3, 6))).run(0, 0, 500).due("over 5", 0, 1, 25 + 62 + 22, 0);
        new Bench(Acts.join(Acts.store(3, 5), Acts.store(3, 0))).run(0, 0, 500)
                .due("0 over 5", 0, 1, 25 + 62 + 22 - 15, 0);
        Bench kept = new Bench(Acts.join(Acts.store(0, 5), Acts.store(15, 6))).run(0, 0, 500);
        Check.same("CELL 0", kept.cell(1, 0), 5);
        Check.same("CELL 15", kept.cell(1, 15), 6);
        Check.same("LOAD", answer(Acts.join(Acts.store(2, 9), Acts.row(Acts.PUSH, 2, Acts.LOAD))), 9);
        Check.same("LOAD of nothing", answer(Acts.PUSH, 15, Acts.LOAD), 0);
        for (long k : new long[] {-1, 16, 1L << 32, Long.MIN_VALUE}) {
            new Bench(Acts.join(Acts.big(k), Acts.row(Acts.LOAD))).run(0, 0, 500).due("LOAD " + k, 0, 3, 500, 0);
            new Bench(Acts.join(Acts.big(k), Acts.row(Acts.PUSH, 0, Acts.STORE))).run(0, 0, 500)
                    .due("STORE " + k, 0, 3, 500, 0);
        }
    }

    private static void knowledge() {
        int[] acts = {Acts.SELF, Acts.CALLER, Acts.ORIGIN, Acts.VALUE, Acts.ARGUMENT, Acts.HEIGHT, Acts.GAS};
        long[] due = {1, 0, 0, 6, -77, 2, 500 - 25 - 1};
        for (int i = 0; i < acts.length; i++) {
            Bench b = new Bench(Acts.row(acts[i], Acts.RETURN)).block().run(6, -77, 500);
            b.due("ACT " + acts[i], 0, 1, 26, due[i]);
            b = new Bench(Acts.row(acts[i], Acts.RETURN), Acts.join(Acts.call(8, 9, 1), Acts.row(Acts.POP, Acts.RETURN)));
            b.order(2, 6, -77, 9000).block();
            long[] within = {1, 2, 0, 9, 8, 1, 3000 - 1};
            Check.same("ACT " + acts[i] + " in a CALL", b.answer(0), within[i]);
        }
        Bench b = new Bench(Acts.row(Acts.ARGUMENT, Acts.BALANCE, Acts.RETURN));
        b.order(1, 5, 1, 500).order(1, 0, 31, 500).order(1, 0, 32, 500).order(1, 0, -1, 500).order(1, 0, 1L << 32, 500);
        b.order(1, 3, 0, 500, 2).block();
        b.due("its own, with the value", 0, 1, 31, 105);
        long[] others = {0, 0, 0, 0, 1000000 - 5 - 3 - 1000};
        for (int i = 1; i <= 5; i++) {
            b.due("BALANCE " + i, i, 1, 31, others[i - 1]);
        }
    }
}
