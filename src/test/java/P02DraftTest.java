/** Promise 2: draft. */
public final class P02DraftTest {
    public static void main(String[] args) {
        octetsComeHighestFirst();
        onlyTheLowestOctetsCount();
        wrongInputs();
        Check.end();
    }

    private static void octetsComeHighestFirst() {
        LedgerMachine x = new LedgerMachine();
        Check.same("draft(2, ..)", x.draft(2, 0x0105), 2);
        Check.same("draft(3, ..)", x.draft(3, 0x010307), 5);
        Check.same("draft(1, ..)", x.draft(1, 0x24), 6);
        Check.same("code()", x.code(), 0);
        x.endow(1, 0, 0);
        Check.same("PUSH 5, PUSH 3, SUB, RETURN", x.view(0, 0, 1, 0, 100), 2);
    }

    private static void onlyTheLowestOctetsCount() {
        LedgerMachine x = new LedgerMachine();
        Check.same("draft(1, ..)", x.draft(1, 0xFFFFFFFFFFFFFF02L), 1);
        Check.same("draft(8, ..)", x.draft(8, 0x8123456789ABCDEFL), 9);
        Check.same("draft(1, ..)", x.draft(1, 0x7F24), 10);
        Check.same("code()", x.code(), 0);
        x.endow(1, 0, 0);
        Check.same("BIG, RETURN", x.view(0, 0, 1, 0, 100), 0x8123456789ABCDEFL);
    }

    private static void wrongInputs() {
        LedgerMachine x = new LedgerMachine();
        for (int n : new int[] {0, -1, 9, Integer.MIN_VALUE, Integer.MAX_VALUE}) {
            Check.refuses("draft(" + n + ", 0)", IllegalArgumentException.class, () -> x.draft(n, 0));
        }
        for (int i = 1; i <= 24; i++) {
            Check.same("draft(8, 0)", x.draft(8, 0), 8 * i);
        }
        Check.same("draft(7, 0)", x.draft(7, 0), 199);
        Check.refuses("draft(2, 0) at 199", IllegalArgumentException.class, () -> x.draft(2, 0));
        Check.refuses("draft(8, 0) at 199", IllegalArgumentException.class, () -> x.draft(8, 0));
        Check.same("draft(1, 0) at 199", x.draft(1, 0), 200);
        Check.refuses("draft(1, 0) at 200", IllegalArgumentException.class, () -> x.draft(1, 0));
        Check.same("code() of 200", x.code(), 0);
        Check.same("draft(1, 0) after code()", x.draft(1, 0), 1);
    }
}
