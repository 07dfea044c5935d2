/** Promise 3: code, and how codes are judged. */
public final class P03CodeTest {
    public static void main(String[] args) {
        numbersAndFaults();
        eachActAlone();
        jumps();
        atMostSixteen();
        Check.end();
    }

    private static int judged(int... octets) {
        return Acts.code(new LedgerMachine(), octets);
    }

    private static void numbersAndFaults() {
        LedgerMachine x = new LedgerMachine();
        Check.same("code() without octets", x.code(), -2);
        Check.same("the first code", Acts.code(x, Acts.STOP), 0);
        Check.same("a code with a fault", Acts.code(x, Acts.STOP, Acts.POP, 40), -4);
        Check.same("the draft is empty behind a fault", x.draft(1, Acts.STOP), 1);
        Check.same("the second code", x.code(), 1);
        Check.same("the draft is empty behind a code", x.code(), -2);
        Check.same("octet 255", judged(255), -2);
        Check.same("octet 128 behind another", judged(Acts.STOP, 128), -3);
        Check.same("octets behind PUSH are no ACTS", judged(Acts.PUSH, 255), 0);
        Check.same("the first fault counts", judged(Acts.STOP, 50, 60), -3);
    }

    private static void eachActAlone() {
        for (int act = 0; act < 256; act++) {
            int behind = act == Acts.BIG ? 8 : 0;
            if (act == Acts.PUSH || act == Acts.DUP || act == Acts.SWAP || act == Acts.JUMP || act == Acts.JUMPIF) {
                behind = 1;
            }
            int[] row = Acts.join(Acts.row(Acts.STOP, act), new int[behind]);
            Check.same("ACT " + act, Acts.code(new LedgerMachine(), row), act < 40 ? 0 : -3);
            if (behind > 0) {
                int[] cut = java.util.Arrays.copyOf(row, row.length - 1);
                Check.same("ACT " + act + " cut short", Acts.code(new LedgerMachine(), cut), -3);
            }
        }
    }

    private static void jumps() {
        Check.same("JUMP to itself", judged(Acts.JUMP, 0), 0);
        Check.same("JUMP behind the last ACT", judged(Acts.JUMP, 2), -2);
        Check.same("JUMP far behind", judged(Acts.JUMP, 255), -2);
        Check.same("JUMP to its own octet", judged(Acts.JUMP, 1), -2);
        Check.same("JUMP onward", judged(Acts.JUMP, 2, Acts.STOP), 0);
        Check.same("JUMPIF into a BIG", judged(Acts.JUMPIF, 3, Acts.BIG, 0, 0, 0, 0, 0, 0, 0, 0), -2);
        Check.same("JUMPIF to a BIG", judged(Acts.JUMPIF, 2, Acts.BIG, 0, 0, 0, 0, 0, 0, 0, 0), 0);
        Check.same("the first lost jump counts", judged(Acts.STOP, Acts.JUMPIF, 2, Acts.JUMP, 4), -3);
        Check.same("what is no ACT comes before lost jumps", judged(Acts.JUMP, 9, Acts.STOP, 40), -5);
        Check.same("what is cut short comes before lost jumps", judged(Acts.JUMP, 1, Acts.PUSH), -4);
        Check.same("a JUMP within BIG is none", judged(Acts.BIG, Acts.JUMP, 99, 0, 0, 0, 0, 0, 0), 0);
        int[] far = Acts.join(Acts.row(Acts.JUMP, 199), new int[198]);
        Check.same("JUMP to place 199", Acts.code(new LedgerMachine(), far), 0);
        far[1] = 200;
        Check.same("JUMP to place 200", Acts.code(new LedgerMachine(), far), -2);
        LedgerMachine x = new LedgerMachine();
        Acts.code(x, Acts.STOP, Acts.STOP, Acts.STOP);
        Check.same("where an ACT of another draft began", Acts.code(x, Acts.JUMP, 1), -2);
    }

    private static void atMostSixteen() {
        LedgerMachine x = new LedgerMachine();
        for (int number = 0; number < 16; number++) {
            Check.same("code()", Acts.code(x, Acts.STOP), number);
        }
        Check.refuses("code() without octets", IllegalStateException.class, x::code);
        x.draft(1, 255);
        Check.refuses("code() with a fault", IllegalStateException.class, x::code);
        Check.same("the draft is as it was", x.draft(1, 0), 2);
        x.endow(0, 0, 15);
        Check.refuses("code 16", IndexOutOfBoundsException.class, () -> x.endow(0, 0, 16));
    }
}
