/** The ACTS by name, and codes written with them. */
final class Acts {
    static final int STOP = 0;
    static final int PUSH = 1;
    static final int BIG = 2;
    static final int POP = 3;
    static final int DUP = 4;
    static final int SWAP = 5;
    static final int ADD = 6;
    static final int SUB = 7;
    static final int MUL = 8;
    static final int DIV = 9;
    static final int REM = 10;
    static final int AND = 11;
    static final int OR = 12;
    static final int XOR = 13;
    static final int SHL = 14;
    static final int SHR = 15;
    static final int LESS = 16;
    static final int SAME = 17;
    static final int NOT = 18;
    static final int JUMP = 19;
    static final int JUMPIF = 20;
    static final int LOAD = 21;
    static final int STORE = 22;
    static final int SELF = 23;
    static final int CALLER = 24;
    static final int ORIGIN = 25;
    static final int VALUE = 26;
    static final int ARGUMENT = 27;
    static final int HEIGHT = 28;
    static final int GAS = 29;
    static final int BALANCE = 30;
    static final int CALL = 31;
    static final int LOOK = 32;
    static final int MAKE = 33;
    static final int BECOME = 34;
    static final int EMIT = 35;
    static final int RETURN = 36;
    static final int REVERT = 37;
    static final int CLOSE = 38;
    static final int LOCK = 39;

    /** Behind a CALL or a LOOK: RETURNS 10 times what it ended with and, added to that, 1 if WELL. */
    static final int[] BOTH = {SWAP, 1, PUSH, 10, MUL, ADD, RETURN};

    private Acts() {
    }

    static int[] row(int... octets) {
        return octets;
    }

    static int[] join(int[]... rows) {
        int size = 0;
        for (int[] row : rows) {
            size += row.length;
        }
        int[] all = new int[size];
        int at = 0;
        for (int[] row : rows) {
            System.arraycopy(row, 0, all, at, row.length);
            at += row.length;
        }
        return all;
    }

    static int[] repeat(int times, int... octets) {
        int[] all = new int[0];
        for (int i = 0; i < times; i++) {
            all = join(all, octets);
        }
        return all;
    }

    static int[] big(long number) {
        int[] row = new int[9];
        row[0] = BIG;
        for (int i = 0; i < 8; i++) {
            row[i + 1] = (int) (number >>> 56 - 8 * i) & 255;
        }
        return row;
    }

    /** CALL: gas 3000 at most, ARGUMENT, value, to. */
    static int[] call(int argument, int value, int to) {
        return join(big(3000), row(PUSH, argument, PUSH, value, PUSH, to, CALL));
    }

    static int[] look(int argument, int to) {
        return join(big(3000), row(PUSH, argument, PUSH, to, LOOK));
    }

    static int[] store(int cell, int value) {
        return row(PUSH, cell, PUSH, value, STORE);
    }

    /** A whole code: where the condition leaves what is not 0, then; else, otherwise, which must end by itself. */
    static int[] branch(int[] condition, int[] then, int[] otherwise) {
        int place = condition.length + 2 + otherwise.length;
        return join(condition, row(JUMPIF, place), otherwise, then);
    }

    /** A whole code that does one thing for an order of account 0, and another when an account with a code CALLS it. */
    static int[] calledOrOrdered(int[] called, int[] ordered) {
        return branch(row(CALLER), called, ordered);
    }

    /** Drafts eight octets with a call, as an object has 512 calls. */
    static int code(LedgerMachine x, int... octets) {
        for (int i = 0; i < octets.length; i += 8) {
            int n = Math.min(8, octets.length - i);
            long rows = 0;
            for (int j = 0; j < n; j++) {
                rows = rows << 8 | octets[i + j] & 255;
            }
            x.draft(n, rows);
        }
        return x.code();
    }
}
