/** Promise 14: seen. */
public final class P14SeenTest {
    public static void main(String[] args) {
        beforeOne();
        howItEnded();
        theGasThatItUsed();
        howManyFramesRan();
        ofTheLatest();
        noSuchWhat();
        Check.end();
    }

    private static void due(LedgerMachine x, String what, int... due) {
        for (int i = 0; i < 3; i++) {
            Check.same(what + ": seen(" + i + ")", x.seen(i), due[i]);
        }
    }

    /** "(what = 0; 0 before one)": an ORDER is no view. */
    private static void beforeOne() {
        Bench b = new Bench(Acts.row(Acts.PUSH, 3, Acts.RETURN));
        due(b.x, "on a new object", 0, 0, 0);
        b.run(0, 0, 9000);
        due(b.x, "behind an ORDER", 0, 0, 0);
        Check.refuses("a view that is refused", Check.INDEX, () -> b.x.view(2, 0, 1, 0, 50));
        due(b.x, "behind that", 0, 0, 0);
    }

    /** "how it ended, as an ORDER" */
    private static void howItEnded() {
        Bench b = new Bench(Acts.row(Acts.PUSH, 6, Acts.RETURN), Acts.row(Acts.PUSH, 6, Acts.REVERT), Acts.row(Acts.POP));
        b.x.view(0, 0, 1, 0, 50);
        due(b.x, "WELL", 1, 1, 1);
        b.x.view(0, 0, 2, 0, 50);
        due(b.x, "UNDONE", 2, 1, 1);
        b.x.view(0, 0, 3, 0, 50);
        due(b.x, "BROKEN", 3, 50, 1);
        b.x.view(0, 0, 9, 0, 50);
        due(b.x, "without a CODE", 1, 0, 0);
    }

    /** "the gas that it used (1)": from none to all. */
    private static void theGasThatItUsed() {
        Bench b = new Bench(Acts.row(Acts.STOP), Acts.row(Acts.JUMP, 0), Acts.row(Acts.PUSH, 1));
        b.x.view(0, 0, 1, 0, 0);
        due(b.x, "none of 0", 1, 0, 1);
        b.x.view(0, 0, 1, 0, 30000);
        due(b.x, "none of 30000", 1, 0, 1);
        b.x.view(0, 0, 2, 0, 30000);
        due(b.x, "all of 30000", 3, 30000, 1);
        b.x.view(0, 0, 3, 0, 1);
        due(b.x, "1 of 1", 1, 1, 1);
        b.x.view(0, 0, 3, 0, 0);
        due(b.x, "1 of 0", 3, 0, 1);
    }

    /** "how many FRAMES ran (2)": none without a CODE, ten within one another, and more in turn. */
    private static void howManyFramesRan() {
        int[] oneLook = Acts.row(Acts.PUSH, 0, Acts.PUSH, 0, Acts.PUSH, 2, Acts.LOOK, Acts.POP, Acts.POP);
        int[] deeper = Acts.row(Acts.GAS, Acts.PUSH, 0, Acts.SELF, Acts.LOOK);
        int[] others = Acts.join(Acts.look(0, 4), Acts.look(0, 9), Acts.look(0, 33), Acts.look(0, -1));
        Bench b = new Bench(Acts.repeat(20, oneLook), Acts.row(Acts.STOP), deeper, Acts.row(Acts.POP), others);
        b.x.view(0, 0, 1, 0, 9000);
        due(b.x, "twenty in turn", 1, 20 * 30, 21);
        b.x.view(0, 0, 3, 0, 9000);
        due(b.x, "ten within one another", 1, 10 * 28, 10);
        b.x.view(0, 0, 5, 0, 9000);
        due(b.x, "one that is BROKEN, and three that are none", 1, 4 * (4 + 25) + 3000, 2);
    }

    /** "Of the latest view" */
    private static void ofTheLatest() {
        Bench b = new Bench(Acts.row(Acts.PUSH, 6, Acts.REVERT), Acts.row(Acts.POP));
        b.x.view(0, 0, 2, 0, 70);
        b.x.view(0, 0, 1, 0, 50);
        due(b.x, "the second", 2, 1, 1);
        b.order(2, 0, 0, 50).block();
        due(b.x, "behind an ORDER", 2, 1, 1);
        b.x.view(1, 0, 9, 0, 50);
        due(b.x, "the third", 1, 0, 0);
    }

    private static void noSuchWhat() {
        Bench b = new Bench(Acts.row(Acts.STOP));
        for (int what : Check.outside(0, 2)) {
            Check.refuses("seen(" + what + ") before a view", Check.INDEX, () -> b.x.seen(what));
        }
        b.x.view(0, 0, 1, 0, 50);
        for (int what : Check.outside(0, 2)) {
            Check.refuses("seen(" + what + ")", Check.INDEX, () -> b.x.seen(what));
        }
    }
}
