import java.util.ArrayList;
import java.util.List;

/**
 * "a call that throws changes nothing": an object that gets a refused call before each step of a run answers every
 * step, and in the end every question, as one without. The run makes THE DRAFT, CODES, ORDERS and BLOCKS full.
 */
public final class RefusedCallsTest {
    private interface Call {
        long on(LedgerMachine x);
    }

    private record Refused(String name, Class<? extends RuntimeException> due, int from, int to, Call call) {
    }

    private final List<Call> steps = new ArrayList<>();
    private final List<Refused> refused = new ArrayList<>();

    public static void main(String[] args) {
        RefusedCallsTest test = new RefusedCallsTest();
        test.writeRun();
        test.addWhatIsAlwaysRefused();
        test.compareAll();
        Check.end();
    }

    /** The steps, and what is refused only between some of them. */
    private void writeRun() {
        for (int i = 0; i < 24; i++) {
            steps.add(x -> x.draft(8, 0));
        }
        steps.add(x -> x.draft(7, 0));
        int almostFull = steps.size();
        steps.add(x -> x.draft(1, 0));
        int full = steps.size();
        steps.add(LedgerMachine::code);
        refuse("draft(2, -1) at 199", Check.ARGUMENT, almostFull, full, x -> x.draft(2, -1));
        refuse("draft(1, -1) at 200", Check.ARGUMENT, full, full + 1, x -> x.draft(1, -1));
        for (int code = 1; code < 16; code++) {
            long emitsAndStores = 0x01001B2301001B16L | (long) code << 48 | (long) code << 16;
            steps.add(x -> x.draft(8, emitsAndStores));
            steps.add(LedgerMachine::code);
        }
        int codesAreFull = steps.size();
        steps.add(x -> x.draft(5, 0));
        addEndowments();
        addBlocks();
        refuse("code() with 16", Check.STATE, codesAreFull, steps.size(), LedgerMachine::code);
    }

    private void addEndowments() {
        for (int account = 0; account < 8; account++) {
            int a = account;
            steps.add(x -> {
                x.endow(a, 100000, 2 * a);
                return 0;
            });
        }
        steps.add(x -> {
            x.weight(3, 4);
            return 0;
        });
        steps.add(x -> {
            x.beside(2, 77);
            return 0;
        });
        steps.add(x -> x.view(0, 1, 2, 3, 50));
    }

    private void addBlocks() {
        int first = steps.size();
        for (int i = 0; i < 10; i++) {
            int nonce = i / 2;
            int from = i % 2;
            steps.add(x -> x.order(from, 1 + from, 5, nonce, 500, 2, nonce));
        }
        int ordersAreFull = steps.size();
        steps.add(x -> x.block(0, 9));
        int another = steps.size();
        refuse("an eleventh order", Check.STATE, ordersAreFull, another, x -> x.order(0, 1, 0, 0, 25, 0, 0));
        steps.add(x -> x.vote(0, 1));
        steps.add(x -> x.order(2, 3, 7, 1, 300, 1, 0));
        for (int block = 2; block < 40; block++) {
            int parent = block / 2;
            steps.add(x -> x.block(parent, 9));
        }
        int blocksAreFull = steps.size();
        steps.add(x -> x.order(2, 3, 7, 1, 300, 1, 0));
        for (int voter = 1; voter < 7; voter++) {
            int v = voter;
            steps.add(x -> x.vote(v, 1));
        }
        steps.add(x -> x.vote(3, 2));
        refuse("endow with another BLOCK", Check.STATE, another, steps.size(), x -> {
            x.endow(9, 55, 1);
            return 0;
        });
        refuse("weight with another BLOCK", Check.STATE, another, steps.size(), x -> {
            x.weight(6, 9);
            return 0;
        });
        refuse("a 41st block", Check.STATE, blocksAreFull, steps.size(), x -> x.block(0, 9));
        refuse("vote for BLOCK 1 that is not yet", Check.INDEX, 0, first, x -> x.vote(6, 1));
        refuse("block on BLOCK 1 that is not yet", Check.INDEX, 0, first, x -> x.block(1, 9));
    }

    private void refuse(String name, Class<? extends RuntimeException> due, int from, int to, Call call) {
        refused.add(new Refused(name, due, from, to, call));
    }

    private void always(String name, Class<? extends RuntimeException> due, Call call) {
        refuse(name, due, 0, steps.size(), call);
    }

    private void addWhatIsAlwaysRefused() {
        always("draft(0, -1)", Check.ARGUMENT, x -> x.draft(0, -1));
        always("draft(9, -1)", Check.ARGUMENT, x -> x.draft(9, -1));
        always("order from 32", Check.INDEX, x -> x.order(32, 1, 0, 0, 25, 0, 0));
        always("order to -1", Check.INDEX, x -> x.order(0, -1, 0, 0, 25, 0, 0));
        always("order with value -1", Check.ARGUMENT, x -> x.order(0, 1, -1, 0, 25, 0, 0));
        always("order with gas 30001", Check.ARGUMENT, x -> x.order(0, 1, 0, 0, 30001, 0, 0));
        always("order with price -1", Check.ARGUMENT, x -> x.order(0, 1, 0, 0, 25, -1, 0));
        always("block on 40", Check.INDEX, x -> x.block(40, 9));
        always("block by 32", Check.INDEX, x -> x.block(0, 32));
        always("view of 40", Check.INDEX, x -> x.view(40, 0, 1, 0, 50));
        always("view from 32", Check.INDEX, x -> x.view(0, 32, 1, 0, 50));
        always("view at -1", Check.INDEX, x -> x.view(0, 0, -1, 0, 50));
        always("view with gas -1", Check.ARGUMENT, x -> x.view(0, 0, 1, 0, -1));
        always("vote by 7", Check.INDEX, x -> x.vote(7, 1));
        always("vote for 0", Check.INDEX, x -> x.vote(6, 0));
        always("vote for 40", Check.INDEX, x -> x.vote(6, 40));
        always("told(40, 0)", Check.INDEX, x -> x.told(40, 0));
        always("told(0, 7)", Check.INDEX, x -> x.told(0, 7));
        always("receipt(0, 0, 0)", Check.INDEX, x -> x.receipt(0, 0, 0));
        always("event(0, 0, 0)", Check.INDEX, x -> x.event(0, 0, 0));
        always("leaf(0, 1024)", Check.INDEX, x -> x.leaf(0, 1024));
        always("digest(0, 11, 0)", Check.INDEX, x -> x.digest(0, 11, 0));
        always("seen(3)", Check.INDEX, x -> x.seen(3));
        always("certain(40)", Check.INDEX, x -> x.certain(40));
        always("proves of 1024", Check.INDEX, x -> x.proves(0, 1024, 0) ? 1 : 0);
        addWhatAnswersNothing();
    }

    private void addWhatAnswersNothing() {
        always("beside(10, 5)", Check.INDEX, x -> {
            x.beside(10, 5);
            return 0;
        });
        always("endow(32, ..)", Check.INDEX, x -> {
            x.endow(32, 5, -1);
            return 0;
        });
        always("endow with code 16", Check.INDEX, x -> {
            x.endow(9, 5, 16);
            return 0;
        });
        always("endow with -1", Check.ARGUMENT, x -> {
            x.endow(9, -1, -1);
            return 0;
        });
        always("weight(7, 5)", Check.INDEX, x -> {
            x.weight(7, 5);
            return 0;
        });
        always("weight(6, 1001)", Check.ARGUMENT, x -> {
            x.weight(6, 1001);
            return 0;
        });
    }

    private void compareAll() {
        List<Long> due = run(null);
        Check.same("the calls are some", due.size() > 200, true);
        for (Refused one : refused) {
            List<Long> got = run(one);
            if (!got.equals(due)) {
                Check.tell("something changed by: " + one.name());
            }
        }
    }

    private List<Long> run(Refused one) {
        LedgerMachine x = new LedgerMachine();
        List<Long> answers = new ArrayList<>();
        for (int i = 0; i < steps.size(); i++) {
            if (one != null && i >= one.from() && i < one.to()) {
                Check.refuses(one.name() + " before step " + i, one.due(), () -> one.call().on(x));
            }
            answers.add(steps.get(i).on(x));
        }
        askAll(x, answers);
        return answers;
    }

    /** All that an object tells, in as few calls as its 512 leave room for. */
    private static void askAll(LedgerMachine x, List<Long> answers) {
        for (int block = 0; block < 40; block++) {
            answers.add(x.digest(block, 10, 0));
            answers.add((long) x.told(block, 5));
        }
        for (int what = 0; what < 7; what++) {
            answers.add((long) x.told(1, what));
        }
        for (int i = 0; i < 10; i++) {
            for (int what = 0; what < 3; what++) {
                answers.add(x.receipt(1, i, what));
            }
        }
        for (int i = 0; i < x.told(1, 3); i++) {
            answers.add(x.event(1, i, 0) + 100 * x.event(1, i, 1));
        }
        for (int what = 0; what < 3; what++) {
            answers.add((long) x.seen(what));
        }
        answers.add((long) x.certain(1));
        answers.add(besideIsAsTold(x) ? 1L : 0L);
        answers.add((long) x.draft(1, 0));
        answers.add((long) x.order(0, 1, 0, 0, 25, 0, 0));
    }

    private static boolean besideIsAsTold(LedgerMachine x) {
        long root = Digests.mix(0, 77);
        for (int level = 3; level < 10; level++) {
            root = Digests.mix(root, 0);
        }
        return x.proves(root, 0, 0);
    }
}
