import java.util.ArrayList;
import java.util.List;
import java.util.function.LongSupplier;

/** Runs of calls, drawn by a fixed rule, on LedgerMachine and on PlainModel: every answer must be the same. */
public final class PlainModelTest {
    private static final int RUNS = 2000;
    /** The last step may make 33 calls (a block, two questions and thirty receipts): 512 are not passed. */
    private static final int CALLS = 512 - 33;

    private final Draw draw;
    private final LedgerMachine machine = new LedgerMachine();
    private final PlainModel model = new PlainModel();
    private final List<String> calls = new ArrayList<>();
    private final int[] nonces = new int[32];
    private int parent;
    private final int accounts;
    private int codes;
    private int blocks = 1;
    private boolean differs;

    private PlainModelTest(long seed) {
        draw = new Draw(seed);
        accounts = 3 + draw.below(10);
    }

    public static void main(String[] args) {
        for (int seed = 1; seed <= RUNS; seed++) {
            PlainModelTest run = new PlainModelTest(seed);
            run.go();
            if (run.differs) {
                Check.tell("run " + seed + " differs:\n  " + String.join("\n  ", run.calls));
                break;
            }
        }
        Check.end();
    }

    private void go() {
        setUp();
        while (calls.size() < CALLS && !differs) {
            anyCall();
        }
    }

    private long both(String call, LongSupplier onMachine, LongSupplier onModel) {
        String got = answer(onMachine);
        String due = answer(onModel);
        calls.add(call + " = " + got);
        if (!got.equals(due)) {
            differs = true;
            calls.add("due is " + due);
        }
        return due.startsWith("throws") ? Long.MIN_VALUE : Long.parseLong(due);
    }

    private static String answer(LongSupplier call) {
        try {
            return String.valueOf(call.getAsLong());
        } catch (RuntimeException e) {
            return "throws." + e.getClass().getSimpleName();
        }
    }

    private void setUp() {
        int made = 2 + draw.below(12);
        CodeDraw drawn = new CodeDraw(draw, accounts);
        for (int i = 0; i < made && calls.size() < 250; i++) {
            code(drawn.next());
        }
        for (int account = 0; account < accounts; account++) {
            endow(account, draw.below(2000000), draw.oneIn(4) ? -1 : draw.below(codes + 1) - 1);
        }
        for (int voter = 0; voter < 7 && draw.oneIn(2); voter++) {
            int v = voter;
            int weight = draw.below(5);
            both("weight(" + v + ", " + weight + ")", () -> {
                machine.weight(v, weight);
                return 0;
            }, () -> {
                model.weight(v, weight);
                return 0;
            });
        }
    }

    private void code(List<Integer> octets) {
        for (int i = 0; i < octets.size(); i += 8) {
            int n = Math.min(8, octets.size() - i);
            long row = draw.number() << 63;
            for (int j = 0; j < n; j++) {
                row = row << 8 | octets.get(i + j);
            }
            long rows = row;
            both("draft(" + n + ", " + rows + ")", () -> machine.draft(n, rows), () -> model.draft(n, rows));
        }
        if (both("code()", machine::code, model::code) >= 0) {
            codes++;
        }
    }

    private void endow(int account, long balance, int code) {
        both("endow(" + account + ", " + balance + ", " + code + ")", () -> {
            machine.endow(account, balance, code);
            return 0;
        }, () -> {
            model.endow(account, balance, code);
            return 0;
        });
    }

    private void anyCall() {
        switch (draw.below(40)) {
            case 0: case 1: case 2: case 3: case 4: case 5: case 6: case 7: order(); break;
            case 8: block(); break;
            case 9: case 10: case 11: view(); break;
            case 14: vote(); break;
            case 15: proof(); break;
            case 16: oddCall(); break;
            case 17: told(); break;
            default: lookAt(); break;
        }
    }

    private int anyBlock() {
        return draw.oneIn(3) ? draw.below(blocks) : blocks - 1;
    }

    private int anyAccount() {
        return draw.oneIn(10) ? draw.below(32) : draw.below(accounts);
    }

    private void order() {
        int from = anyAccount();
        int to = anyAccount();
        long value = draw.oneIn(2) ? 0 : draw.below(draw.oneIn(20) ? 3000000 : 50);
        long argument = draw.oneIn(8) ? draw.number() : draw.below(draw.oneIn(4) ? 100 : 6);
        int gas = draw.oneIn(15) ? draw.below(40) : draw.oneIn(4) ? 10000 + draw.below(20001) : draw.below(4000);
        int price = draw.oneIn(3) ? 0 : draw.below(20);
        int nonce = draw.oneIn(25) ? draw.below(5) - 1 : nonces[from];
        long many = both("order(" + from + ", " + to + ", " + value + ", " + argument + ", " + gas + ", " + price + ", "
                + nonce + ")", () -> machine.order(from, to, value, argument, gas, price, nonce),
                () -> model.order(from, to, value, argument, gas, price, nonce));
        if (many > 0 && nonce == nonces[from]) {
            nonces[from]++;
        }
    }

    private void block() {
        int maker = draw.oneIn(3) ? draw.below(32) : anyAccount();
        int below = parent;
        long made = both("block(" + parent + ", " + maker + ")", () -> machine.block(below, maker),
                () -> model.block(below, maker));
        if (made < 0) {
            return;
        }
        blocks = (int) made + 1;
        both("digest(" + made + ", 10, 0)", () -> machine.digest((int) made, 10, 0), () -> model.digest((int) made, 10, 0));
        int orders = (int) both("told(" + made + ", 2)", () -> machine.told((int) made, 2), () -> model.told((int) made, 2));
        for (int i = 0; i < orders; i++) {
            for (int what = 0; what < 3; what++) {
                receipt((int) made, i, what);
            }
        }
        parent = anyBlock();
        for (int account = 0; account < 32; account++) {
            nonces[account] = (int) model.leaf(parent, 32 * account + 1);
        }
    }

    private void receipt(int block, int i, int what) {
        both("receipt(" + block + ", " + i + ", " + what + ")", () -> machine.receipt(block, i, what),
                () -> model.receipt(block, i, what));
    }

    private void view() {
        int block = anyBlock();
        int from = anyAccount();
        int to = anyAccount();
        long argument = draw.below(6);
        int gas = draw.oneIn(3) ? draw.below(30001) : draw.below(2000);
        both("view(" + block + ", " + from + ", " + to + ", " + argument + ", " + gas + ")",
                () -> machine.view(block, from, to, argument, gas), () -> model.view(block, from, to, argument, gas));
        for (int what = 0; what < 3; what++) {
            int w = what;
            both("seen(" + w + ")", () -> machine.seen(w), () -> model.seen(w));
        }
    }

    private void vote() {
        int block = draw.below(blocks + 1);
        for (int voter = draw.below(7); voter < 7; voter++) {
            int v = voter;
            both("vote(" + v + ", " + block + ")", () -> machine.vote(v, block), () -> model.vote(v, block));
        }
        int height = draw.below(10);
        both("certain(" + height + ")", () -> machine.certain(height), () -> model.certain(height));
    }

    private void proof() {
        int block = anyBlock();
        int leaf = draw.below(32 * accounts);
        for (int level = 0; level < 10; level++) {
            int n = level;
            int i = leaf >> level ^ 1;
            long digest = both("digest(" + block + ", " + n + ", " + i + ")", () -> machine.digest(block, n, i),
                    () -> model.digest(block, n, i));
            machine.beside(n, digest);
            model.beside(n, digest);
            calls.add("beside(" + n + ", " + digest + ")");
        }
        long root = model.digest(block, 10, 0);
        long value = model.leaf(block, leaf) + (draw.oneIn(4) ? 1 : 0);
        both("proves(" + root + ", " + leaf + ", " + value + ")", () -> machine.proves(root, leaf, value) ? 1 : 0,
                () -> model.proves(root, leaf, value) ? 1 : 0);
    }

    private void told() {
        int block = draw.below(blocks + 1);
        int what = draw.below(8);
        both("told(" + block + ", " + what + ")", () -> machine.told(block, what), () -> model.told(block, what));
    }

    private void lookAt() {
        int block = anyBlock();
        if (draw.oneIn(2)) {
            int leaf = draw.below(32 * accounts);
            both("leaf(" + block + ", " + leaf + ")", () -> machine.leaf(block, leaf), () -> model.leaf(block, leaf));
        } else {
            int events = model.told(block, 3);
            int i = draw.oneIn(3) ? events - 1 : draw.below(events + 1);
            int what = draw.below(4);
            both("event(" + block + ", " + i + ", " + what + ")", () -> machine.event(block, i, what),
                    () -> model.event(block, i, what));
        }
    }

    private void oddCall() {
        int odd = draw.oneOf(-1, 0, 7, 10, 31, 32, 39, 40, 1023, 1024, 30000, 30001, Integer.MIN_VALUE, Integer.MAX_VALUE);
        int other = draw.oneOf(-1, 0, 1, 3, 10, 31, 32, Integer.MIN_VALUE, Integer.MAX_VALUE);
        switch (draw.below(12)) {
            case 0: both("leaf(" + other + ", " + odd + ")", () -> machine.leaf(other, odd), () -> model.leaf(other,
                    odd)); break;
            case 1: both("digest(0, " + other + ", " + odd + ")", () -> machine.digest(0, other, odd),
                    () -> model.digest(0, other, odd)); break;
            case 2: receipt(other, odd, draw.below(4)); break;
            case 3: both("event(" + other + ", " + odd + ", 0)", () -> machine.event(other, odd, 0),
                    () -> model.event(other, odd, 0)); break;
            case 4: both("seen(" + odd + ")", () -> machine.seen(odd), () -> model.seen(odd)); break;
            case 5: both("vote(" + other + ", " + odd + ")", () -> machine.vote(other, odd), () -> model.vote(other,
                    odd)); break;
            case 6: both("certain(" + odd + ")", () -> machine.certain(odd), () -> model.certain(odd)); break;
            case 7: both("view(0, " + other + ", 0, 0, " + odd + ")", () -> machine.view(0, other, 0, 0, odd),
                    () -> model.view(0, other, 0, 0, odd)); break;
            case 8: endow(other, odd, draw.below(20) - 2); break;
            case 9: both("proves(0, " + odd + ", 0)", () -> machine.proves(0, odd, 0) ? 1 : 0,
                    () -> model.proves(0, odd, 0) ? 1 : 0); break;
            case 10: both("draft(" + odd + ", 0)", () -> machine.draft(odd, 0), () -> model.draft(odd, 0)); break;
            default: code(new CodeDraw(draw, accounts).next()); break;
        }
    }
}
