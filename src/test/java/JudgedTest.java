/** Terms, 2 CODES: how a CODE is JUDGED. */
public final class JudgedTest {
    public static void main(String[] args) {
        oneToTwoHundredOctets();
        actsAreZeroToThirtyNine();
        octetsOfAnActAreNoActs();
        anActIsThereAsAWhole();
        theLastPlaceForAWholeAct();
        theFirstThatIsNone();
        jumpsToWhereAnActBegins();
        jumpsBehindTheLastAct();
        jumpsIntoAnAct();
        theFirstLostJump();
        lostJumpsComeLast();
        eachDraftAlone();
        Check.end();
    }

    private static void judged(String what, int due, int... octets) {
        Check.same(what, Acts.code(new LedgerMachine(), octets), due);
    }

    private static int behind(int act) {
        boolean hasOne = act == Acts.PUSH || act == Acts.DUP || act == Acts.SWAP || act == Acts.JUMP || act == Acts.JUMPIF;
        return act == Acts.BIG ? 8 : hasOne ? 1 : 0;
    }

    /** "A CODE is a row of 1 .. 200 octets" */
    private static void oneToTwoHundredOctets() {
        judged("no octets", -2);
        judged("one", 0, Acts.STOP);
        judged("199", 0, new int[199]);
        judged("200", 0, new int[200]);
        LedgerMachine x = new LedgerMachine();
        for (int i = 0; i < 25; i++) {
            x.draft(8, 0);
        }
        Check.refuses("201", Check.ARGUMENT, () -> x.draft(1, 0));
    }

    /** "the first ACT that is none (0 .. 39 are)" */
    private static void actsAreZeroToThirtyNine() {
        for (int act = 0; act < 256; act++) {
            int[] whole = Acts.join(Acts.row(act), new int[behind(act)]);
            judged("ACT " + act, act < 40 ? 0 : -2, whole);
            judged("STOP, ACT " + act, act < 40 ? 0 : -3, Acts.join(Acts.row(Acts.STOP), whole));
        }
    }

    private static void octetsOfAnActAreNoActs() {
        judged("PUSH 255", 0, Acts.PUSH, 255);
        judged("DUP 40", 0, Acts.DUP, 40);
        judged("SWAP 200", 0, Acts.SWAP, 200);
        judged("BIG of 255", 0, Acts.big(-1));
        judged("what is none behind them", -2 - 9, Acts.join(Acts.big(-1), Acts.row(40)));
    }

    /** "or is not there as a whole" */
    private static void anActIsThereAsAWhole() {
        for (int act = 0; act < 40; act++) {
            for (int there = 0; there <= behind(act); there++) {
                int[] octets = Acts.join(Acts.row(Acts.STOP, act), new int[there]);
                judged("ACT " + act + " with " + there + " octets", there < behind(act) ? -3 : 0, octets);
            }
        }
    }

    private static void theLastPlaceForAWholeAct() {
        judged("PUSH at 198", 0, Acts.join(new int[198], Acts.row(Acts.PUSH, 0)));
        judged("PUSH at 199", -2 - 199, Acts.join(new int[199], Acts.row(Acts.PUSH)));
        judged("BIG at 191", 0, Acts.join(new int[191], Acts.big(0)));
        judged("BIG at 192", -2 - 192, Acts.join(new int[192], Acts.row(Acts.BIG, 0, 0, 0, 0, 0, 0, 0)));
        judged("JUMPIF at 199", -2 - 199, Acts.join(new int[199], Acts.row(Acts.JUMPIF)));
    }

    private static void theFirstThatIsNone() {
        judged("two that are none", -3, Acts.STOP, 50, 60);
        judged("none, then cut short", -3, Acts.STOP, 50, Acts.PUSH);
        judged("none at the end", -4, Acts.STOP, Acts.STOP, 40);
    }

    /** "of the first that jumps to where no ACT begins" */
    private static void jumpsToWhereAnActBegins() {
        for (int jump : new int[] {Acts.JUMP, Acts.JUMPIF}) {
            judged("to itself", 0, jump, 0);
            judged("onward", 0, jump, 2, Acts.STOP);
            judged("back", 0, Acts.STOP, Acts.STOP, jump, 0);
            judged("to a BIG", 0, Acts.join(Acts.row(jump, 2), Acts.big(0)));
            judged("to the ACT behind a BIG", 0, Acts.join(Acts.row(jump, 11), Acts.big(0), Acts.row(Acts.STOP)));
            judged("to place 199", 0, Acts.join(Acts.row(jump, 199), new int[198]));
            judged("from place 198", 0, Acts.join(new int[198], Acts.row(jump, 198)));
        }
    }

    /** STOP stands behind the last ACT, but no ACT begins there. */
    private static void jumpsBehindTheLastAct() {
        for (int jump : new int[] {Acts.JUMP, Acts.JUMPIF}) {
            judged("to its end", -2, jump, 2);
            judged("one farther", -2, jump, 3);
            judged("to 255", -2, jump, 255);
            judged("to 128", -2, jump, 128);
            judged("to place 200", -2, Acts.join(Acts.row(jump, 200), new int[198]));
            judged("to place 255 of 200", -2, Acts.join(Acts.row(jump, 255), new int[198]));
        }
    }

    private static void jumpsIntoAnAct() {
        for (int jump : new int[] {Acts.JUMP, Acts.JUMPIF}) {
            judged("to its own octet", -2, jump, 1);
            judged("to the octet of a PUSH", -2, jump, 3, Acts.PUSH, 0, Acts.STOP);
            for (int place = 3; place <= 10; place++) {
                judged("into a BIG at " + place, -2, Acts.join(Acts.row(jump, place), Acts.big(0), Acts.row(Acts.STOP)));
            }
        }
    }

    private static void theFirstLostJump() {
        judged("the second jump", -4, Acts.JUMP, 0, Acts.JUMP, 1);
        judged("both", -2, Acts.JUMP, 1, Acts.JUMP, 1);
        judged("JUMPIF before JUMP", -3, Acts.STOP, Acts.JUMPIF, 2, Acts.JUMP, 4);
        judged("a jump within a BIG is none", 0, Acts.BIG, Acts.JUMP, 99, 0, 0, 0, 0, 0, 0);
        judged("a jump as an octet is none", 0, Acts.PUSH, Acts.JUMP, Acts.POP);
        judged("at the last place", -2 - 198, Acts.join(new int[198], Acts.row(Acts.JUMP, 199)));
    }

    /** "if there is none such": what is no ACT, or not whole, counts before a jump that stands earlier. */
    private static void lostJumpsComeLast() {
        judged("what is no ACT", -5, Acts.JUMP, 9, Acts.STOP, 40);
        judged("what is cut short", -4, Acts.JUMP, 1, Acts.PUSH);
        judged("a jump to what is no ACT", -4, Acts.JUMP, 2, 40);
    }

    /** Where ACTS began in an earlier draft does not count. */
    private static void eachDraftAlone() {
        LedgerMachine x = new LedgerMachine();
        Acts.code(x, Acts.STOP, Acts.STOP, Acts.STOP, Acts.STOP);
        Check.same("a jump to where an ACT of another one began", Acts.code(x, Acts.JUMP, 1), -2);
        Check.same("behind its end", Acts.code(x, Acts.JUMP, 3, Acts.STOP), -2);
    }
}
