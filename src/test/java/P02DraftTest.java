/** Promise 2: draft. */
public final class P02DraftTest {
    public static void main(String[] args) {
        theLowestOctetsHighestFirst();
        theyComeBehindTheDraft();
        howManyItHas();
        nIsOneToEight();
        upToTwoHundredOneByOne();
        noMoreThanTwoHundred();
        whatIsRefusedIsNotKept();
        Check.end();
    }

    /** "The n lowest octets of a long, the highest of these first": for each n, as octets of a BIG. */
    private static void theLowestOctetsHighestFirst() {
        long row = 0xF1E2D3C4B5A69788L;
        for (int n = 1; n <= 8; n++) {
            LedgerMachine x = new LedgerMachine();
            x.draft(1, Acts.BIG);
            Check.same("draft(" + n + ", ..)", x.draft(n, row), 1 + n);
            if (n < 8) {
                x.draft(8 - n, 0);
            }
            x.draft(1, Acts.RETURN);
            x.code();
            x.endow(1, 0, 0);
            Check.same(n + " octets", x.view(0, 0, 1, 0, 100), row << 8 * (8 - n));
        }
    }

    /** ".. come behind THE DRAFT." */
    private static void theyComeBehindTheDraft() {
        LedgerMachine x = new LedgerMachine();
        x.draft(2, 0x0105);
        x.draft(3, 0x010307);
        x.draft(1, 0x24);
        Check.same("code()", x.code(), 0);
        x.endow(1, 0, 0);
        Check.same("PUSH 5, PUSH 3, SUB, RETURN", x.view(0, 0, 1, 0, 100), 2);
    }

    /** "Answers how many it has." */
    private static void howManyItHas() {
        LedgerMachine x = new LedgerMachine();
        int size = 0;
        for (int n = 1; n <= 8; n++) {
            size += n;
            Check.same("draft(" + n + ", 0)", x.draft(n, 0), size);
        }
        x.code();
        Check.same("behind code()", x.draft(8, 0), 8);
        x.draft(1, 255);
        x.code();
        Check.same("behind a FAULT", x.draft(1, 0), 1);
    }

    /** "IllegalArgumentException: n is not 1 to 8" */
    private static void nIsOneToEight() {
        LedgerMachine x = new LedgerMachine();
        for (int n : Check.outside(1, 8)) {
            Check.refuses("draft(" + n + ", 0)", Check.ARGUMENT, () -> x.draft(n, 0));
        }
        Check.same("draft(1, 0)", x.draft(1, 0), 1);
        Check.same("draft(8, 0)", x.draft(8, 0), 9);
        for (int n : Check.outside(1, 8)) {
            Check.refuses("draft(" + n + ", 0) at 9", Check.ARGUMENT, () -> x.draft(n, 0));
        }
        Check.same("as many as before", x.draft(1, 0), 10);
    }

    private static void upToTwoHundredOneByOne() {
        LedgerMachine x = new LedgerMachine();
        for (int size = 1; size <= 200; size++) {
            Check.same("draft(1, 0)", x.draft(1, 0), size);
        }
        Check.refuses("a 201st", Check.ARGUMENT, () -> x.draft(1, 0));
    }

    /** "or there would be more than 200": each n with just the room for it, and with one less. */
    private static void noMoreThanTwoHundred() {
        for (int n = 1; n <= 8; n++) {
            LedgerMachine x = ofSize(200 - n);
            Check.same("draft(" + n + ", 0) at " + (200 - n), x.draft(n, 0), 200);
            for (int more = 1; more <= 9; more++) {
                int m = more;
                Check.refuses("draft(" + m + ", 0) at 200", Check.ARGUMENT, () -> x.draft(m, 0));
            }
            LedgerMachine y = ofSize(201 - n);
            int many = n;
            Check.refuses("draft(" + n + ", 0) at " + (201 - n), Check.ARGUMENT, () -> y.draft(many, 0));
            Check.same("code() of 200", x.code(), 0);
            Check.same("draft behind code()", x.draft(8, 0), 8);
        }
    }

    private static LedgerMachine ofSize(int size) {
        LedgerMachine x = new LedgerMachine();
        for (int i = 0; i + 8 <= size; i += 8) {
            x.draft(8, 0);
        }
        if (size % 8 > 0) {
            x.draft(size % 8, 0);
        }
        return x;
    }

    /** A draft that throws leaves neither octets nor room behind. */
    private static void whatIsRefusedIsNotKept() {
        LedgerMachine x = ofSize(198);
        Check.refuses("draft(3, ..) at 198", Check.ARGUMENT, () -> x.draft(3, 0xFFFFFF));
        Check.refuses("draft(9, ..) at 198", Check.ARGUMENT, () -> x.draft(9, 0xFFFFFF));
        Check.same("draft(1, 255) at 198", x.draft(1, 255), 199);
        Check.same("its FAULT", x.code(), -2 - 198);
    }
}
