/** Promise 3: code. JudgedTest tells what a FAULT is. */
public final class P03CodeTest {
    public static void main(String[] args) {
        theNumberOfTheNewCode();
        theDraftIsEmptyThen();
        twoLessThePlaceOfTheFault();
        withoutOctets();
        thereAreSixteen();
        anySixteenth();
        whatIsRefusedStays();
        codesComeAtAnyTime();
        Check.end();
    }

    /** "the number of the new CODE": a FAULT takes no number. */
    private static void theNumberOfTheNewCode() {
        LedgerMachine x = new LedgerMachine();
        Check.same("the first", Acts.code(x, Acts.STOP), 0);
        Check.same("the second", Acts.code(x, Acts.STOP), 1);
        Check.same("a FAULT", Acts.code(x, 40), -2);
        Check.same("nothing", x.code(), -2);
        Check.same("the third", Acts.code(x, Acts.STOP), 2);
        Check.refuses("a fourth", Check.INDEX, () -> x.endow(0, 0, 3));
        x.endow(0, 0, 2);
    }

    /** "THE DRAFT, which is empty then": behind a CODE, and behind a FAULT. */
    private static void theDraftIsEmptyThen() {
        LedgerMachine x = new LedgerMachine();
        Acts.code(x, Acts.STOP, Acts.STOP, Acts.STOP);
        Check.same("code() behind a CODE", x.code(), -2);
        Check.same("draft behind a CODE", x.draft(1, Acts.STOP), 1);
        Check.same("its CODE", x.code(), 1);
        Acts.code(x, Acts.STOP, Acts.STOP, 40);
        Check.same("draft behind a FAULT", x.draft(1, Acts.STOP), 1);
        Check.same("and its CODE", x.code(), 2);
        Acts.code(x, Acts.STOP, Acts.STOP, 40);
        Check.same("code() behind a FAULT", x.code(), -2);
    }

    /** "-2 less the place of its FAULT": from the first place to the last. */
    private static void twoLessThePlaceOfTheFault() {
        for (int place : new int[] {0, 1, 2, 126, 127, 128, 198, 199}) {
            int[] octets = Acts.join(new int[place], Acts.row(40));
            Check.same("a FAULT at " + place, Acts.code(new LedgerMachine(), octets), -2 - place);
        }
    }

    /** "(the size where it has no octets)" */
    private static void withoutOctets() {
        LedgerMachine x = new LedgerMachine();
        Check.same("code()", x.code(), -2);
        Check.same("code() again", x.code(), -2);
        Check.same("one octet is a CODE", Acts.code(x, Acts.STOP), 0);
        Check.same("200 octets are a CODE", Acts.code(x, new int[200]), 1);
    }

    private static LedgerMachine with(int codes) {
        LedgerMachine x = new LedgerMachine();
        for (int number = 0; number < codes; number++) {
            Check.same("code()", Acts.code(x, Acts.PUSH, number, Acts.RETURN), number);
        }
        return x;
    }

    /** "IllegalStateException: there are 16.": whatever THE DRAFT holds. */
    private static void thereAreSixteen() {
        LedgerMachine x = with(16);
        Check.refuses("code() without octets", Check.STATE, x::code);
        x.draft(1, Acts.STOP);
        Check.refuses("code() of a CODE", Check.STATE, x::code);
        x.draft(1, 255);
        Check.refuses("code() with a FAULT", Check.STATE, x::code);
        Check.refuses("and again", Check.STATE, x::code);
        x.endow(1, 0, 15);
        Check.same("the last CODE", x.view(0, 0, 1, 0, 100), 15);
        x.endow(1, 0, 0);
        Check.same("the first CODE", x.view(0, 0, 1, 0, 100), 0);
        Check.refuses("CODE 16", Check.INDEX, () -> x.endow(0, 0, 16));
    }

    /** With 15 it is JUDGED as ever. */
    private static void anySixteenth() {
        LedgerMachine x = with(15);
        Check.same("no octets", x.code(), -2);
        Check.same("a FAULT", Acts.code(x, Acts.STOP, 40), -3);
        Check.same("the sixteenth", Acts.code(x, Acts.STOP), 15);
        Check.refuses("a seventeenth", Check.STATE, x::code);
    }

    private static void whatIsRefusedStays() {
        LedgerMachine x = with(16);
        x.draft(5, 0);
        Check.refuses("code()", Check.STATE, x::code);
        Check.same("THE DRAFT is as it was", x.draft(1, 0), 6);
    }

    private static void codesComeAtAnyTime() {
        LedgerMachine x = with(2);
        x.block(0, 0);
        Check.same("behind a BLOCK", Acts.code(x, Acts.STOP), 2);
    }
}
