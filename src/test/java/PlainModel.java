import java.util.ArrayList;
import java.util.HashSet;
import java.util.List;
import java.util.Set;

/** A second, plainer writing of the document, to be held against LedgerMachine: copies of whole states, recursion. */
final class PlainModel {
    private static final class Account implements Cloneable {
        long balance;
        long nonce;
        int code = -1;
        long[] cells = new long[16];

        Account copy() {
            Account a = new Account();
            a.balance = balance;
            a.nonce = nonce;
            a.code = code;
            a.cells = cells.clone();
            return a;
        }

        boolean isEmpty() {
            for (long cell : cells) {
                if (cell != 0) {
                    return false;
                }
            }
            return balance == 0 && nonce == 0 && code == -1;
        }
    }

    private static final class World {
        Account[] accounts = new Account[32];
        List<long[]> events = new ArrayList<>();
        int giveBack;

        static World empty() {
            World w = new World();
            for (int a = 0; a < 32; a++) {
                w.accounts[a] = new Account();
            }
            return w;
        }

        World copy() {
            World w = new World();
            for (int a = 0; a < 32; a++) {
                w.accounts[a] = accounts[a].copy();
            }
            w.events = new ArrayList<>(events);
            w.giveBack = giveBack;
            return w;
        }
    }

    private static final class Block {
        int parent;
        int height;
        int used;
        World world;
        List<long[]> receipts = new ArrayList<>();
        List<long[]> events = new ArrayList<>();
        Set<Integer> voters = new HashSet<>();
    }

    private record Order(int from, int to, long value, long argument, int gas, int price, int nonce) {
    }

    private record Result(int how, long with, long gasBack) {
    }

    private static final class Broken extends Exception {
        private static final long serialVersionUID = 1L;
    }

    private static final class Running {
        final int account;
        boolean locked;

        Running(int account) {
            this.account = account;
        }
    }

    private final List<Integer> draft = new ArrayList<>();
    private final List<int[]> codes = new ArrayList<>();
    private final List<Order> orders = new ArrayList<>();
    private final List<Block> blocks = new ArrayList<>();
    private final int[] weights = {1, 1, 1, 1, 1, 1, 1};
    private final long[] beside = new long[10];
    private final int[] seen = new int[3];

    private World world;
    private final List<Running> running = new ArrayList<>();
    private int origin;
    private int height;
    private int orderNumber;
    private int framesRun;

    PlainModel() {
        Block b = new Block();
        b.parent = -1;
        b.world = World.empty();
        blocks.add(b);
    }

    private static void index(boolean ok) {
        if (!ok) {
            throw new IndexOutOfBoundsException();
        }
    }

    private static void argument(boolean ok) {
        if (!ok) {
            throw new IllegalArgumentException();
        }
    }

    private static void state(boolean ok) {
        if (!ok) {
            throw new IllegalStateException();
        }
    }

    private static boolean in(long x, long low, long high) {
        return low <= x && x <= high;
    }

    int draft(int n, long octets) {
        argument(in(n, 1, 8) && draft.size() + n <= 200);
        for (int i = 0; i < n; i++) {
            draft.add((int) ((octets >>> (8 * (n - 1 - i))) & 255));
        }
        return draft.size();
    }

    private static int length(int act) {
        if (act == 2) {
            return 9;
        }
        return act == 1 || act == 4 || act == 5 || act == 19 || act == 20 ? 2 : 1;
    }

    private int judge(int[] c) {
        if (c.length == 0) {
            return 0;
        }
        Set<Integer> begins = new HashSet<>();
        for (int p = 0; p < c.length; p += length(c[p])) {
            if (c[p] > 39 || p + length(c[p]) > c.length) {
                return p;
            }
            begins.add(p);
        }
        for (int p = 0; p < c.length; p += length(c[p])) {
            if ((c[p] == 19 || c[p] == 20) && !begins.contains(c[p + 1])) {
                return p;
            }
        }
        return -1;
    }

    int code() {
        state(codes.size() < 16);
        int[] c = draft.stream().mapToInt(Integer::intValue).toArray();
        draft.clear();
        int fault = judge(c);
        if (fault >= 0) {
            return -2 - fault;
        }
        codes.add(c);
        return codes.size() - 1;
    }

    void endow(int account, long balance, int code) {
        index(in(account, 0, 31) && in(code, -1, codes.size() - 1));
        argument(in(balance, 0, 1L << 44));
        state(blocks.size() == 1);
        blocks.get(0).world.accounts[account].balance = balance;
        blocks.get(0).world.accounts[account].code = code;
    }

    void weight(int voter, int weight) {
        index(in(voter, 0, 6));
        argument(in(weight, 0, 1000));
        state(blocks.size() == 1);
        weights[voter] = weight;
    }

    int order(int from, int to, long value, long argument, int gas, int price, int nonce) {
        index(in(from, 0, 31) && in(to, 0, 31));
        argument(in(value, 0, 1L << 50) && in(gas, 0, 30000) && in(price, 0, 1000000));
        state(orders.size() < 10);
        orders.add(new Order(from, to, value, argument, gas, price, nonce));
        return orders.size();
    }

    int block(int parent, int maker) {
        index(in(parent, 0, blocks.size() - 1) && in(maker, 0, 31));
        state(blocks.size() < 40);
        Block b = new Block();
        b.parent = parent;
        b.height = blocks.get(parent).height + 1;
        world = blocks.get(parent).world.copy();
        height = b.height;
        for (orderNumber = 0; orderNumber < orders.size(); orderNumber++) {
            doOrder(b, orders.get(orderNumber), maker);
        }
        world.events.clear();
        b.world = world;
        orders.clear();
        blocks.add(b);
        return blocks.size() - 1;
    }

    private void doOrder(Block b, Order o, int maker) {
        Account from = world.accounts[o.from];
        if (o.nonce != from.nonce || o.gas < 25 || o.gas > 30000 - b.used
                || (long) o.gas * o.price + o.value > from.balance) {
            b.receipts.add(new long[] {0, 0, 0});
            return;
        }
        from.nonce++;
        from.balance -= (long) o.gas * o.price;
        world.giveBack = 0;
        world.events.clear();
        running.clear();
        origin = o.from;
        Result r = call(o.from, o.to, o.value, o.argument, o.gas - 25, false);
        long used = o.gas - r.gasBack;
        used -= Math.min(world.giveBack, used / 5);
        world.accounts[o.from].balance += (o.gas - used) * o.price;
        world.accounts[maker].balance += used * o.price;
        b.used += (int) used;
        b.receipts.add(new long[] {r.how, used, r.with});
        for (long[] event : world.events) {
            if (b.events.size() < 60) {
                b.events.add(event);
            }
        }
    }

    private Result call(int caller, long to, long value, long argument, long gas, boolean look) {
        boolean locked = running.stream().anyMatch(f -> f.account == to && f.locked);
        if (!in(to, 0, 31) || value < 0 || value > world.accounts[caller].balance || locked || running.size() >= 10) {
            return new Result(2, 0, gas);
        }
        World before = world.copy();
        world.accounts[caller].balance -= value;
        world.accounts[(int) to].balance += value;
        int code = world.accounts[(int) to].code;
        if (code < 0) {
            return new Result(1, 0, gas);
        }
        Running me = new Running((int) to);
        running.add(me);
        framesRun++;
        Interpreter run = new Interpreter(codes.get(code), me, caller, value, argument, gas, look);
        Result r;
        try {
            r = run.go();
        } catch (Broken e) {
            r = new Result(3, 0, 0);
        }
        running.remove(running.size() - 1);
        if (r.how != 1) {
            world = before;
        }
        return r;
    }

    private final class Interpreter {
        final int[] code;
        final Running me;
        final long caller;
        final long value;
        final long argument;
        final boolean look;
        final List<Long> stack = new ArrayList<>();
        long gas;

        Interpreter(int[] code, Running me, long caller, long value, long argument, long gas, boolean look) {
            this.code = code;
            this.me = me;
            this.caller = caller;
            this.value = value;
            this.argument = argument;
            this.gas = gas;
            this.look = look;
        }

        void pay(long cost) throws Broken {
            broken(gas < cost);
            gas -= cost;
        }

        void broken(boolean is) throws Broken {
            if (is) {
                throw new Broken();
            }
        }

        long pop() throws Broken {
            broken(stack.isEmpty());
            return stack.remove(stack.size() - 1);
        }

        void push(long v) throws Broken {
            broken(stack.size() >= 24);
            stack.add(v);
        }

        int below(int n) throws Broken {
            broken(n >= stack.size());
            return stack.size() - 1 - n;
        }

        Account own() {
            return world.accounts[me.account];
        }

        Result go() throws Broken {
            int p = 0;
            while (true) {
                int act = p < code.length ? code[p] : 0;
                int u = p + 1 < code.length ? code[p + 1] : 0;
                int at = p;
                p += length(act);
                long a;
                long b;
                switch (act) {
                    case 0: return new Result(1, 0, gas);
                    case 1: pay(1); push((byte) u); break;
                    case 2:
                        pay(2);
                        long big = 0;
                        for (int i = 1; i <= 8; i++) {
                            big = big * 256 + code[at + i];
                        }
                        push(big);
                        break;
                    case 3: pay(1); pop(); break;
                    case 4: pay(1); push(stack.get(below(u))); break;
                    case 5:
                        pay(1);
                        int i = below(u);
                        int top = below(0);
                        long held = stack.get(i);
                        stack.set(i, stack.get(top));
                        stack.set(top, held);
                        break;
                    case 6: pay(1); b = pop(); a = pop(); push(a + b); break;
                    case 7: pay(1); b = pop(); a = pop(); push(a - b); break;
                    case 8: pay(2); b = pop(); a = pop(); push(a * b); break;
                    case 9: pay(3); b = pop(); a = pop(); broken(b == 0); push(a / b); break;
                    case 10: pay(3); b = pop(); a = pop(); broken(b == 0); push(a % b); break;
                    case 11: pay(1); b = pop(); a = pop(); push(a & b); break;
                    case 12: pay(1); b = pop(); a = pop(); push(a | b); break;
                    case 13: pay(1); b = pop(); a = pop(); push(a ^ b); break;
                    case 14: pay(1); b = pop(); a = pop(); push(a << (b & 63)); break;
                    case 15: pay(1); b = pop(); a = pop(); push(a >> (b & 63)); break;
                    case 16: pay(1); b = pop(); a = pop(); push(a < b ? 1 : 0); break;
                    case 17: pay(1); b = pop(); a = pop(); push(a == b ? 1 : 0); break;
                    case 18: pay(1); a = pop(); push(a == 0 ? 1 : 0); break;
                    case 19: pay(2); p = u; break;
                    case 20: pay(2); p = pop() != 0 ? u : p; break;
                    case 21: pay(10); a = pop(); broken(!in(a, 0, 15)); push(own().cells[(int) a]); break;
                    case 22: store(); break;
                    case 23: pay(1); push(me.account); break;
                    case 24: pay(1); push(caller); break;
                    case 25: pay(1); push(origin); break;
                    case 26: pay(1); push(value); break;
                    case 27: pay(1); push(argument); break;
                    case 28: pay(1); push(height); break;
                    case 29: pay(1); push(gas); break;
                    case 30: pay(5); a = pop(); push(in(a, 0, 31) ? world.accounts[(int) a].balance : 0); break;
                    case 31: callOut(false); break;
                    case 32: callOut(true); break;
                    case 33: make(); break;
                    case 34:
                        pay(40);
                        a = pop();
                        broken(look || !in(a, 0, codes.size() - 1));
                        own().code = (int) a;
                        break;
                    case 35:
                        pay(15);
                        b = pop();
                        a = pop();
                        broken(look);
                        world.events.add(new long[] {me.account, a, b, orderNumber});
                        break;
                    case 36: return new Result(1, pop(), gas);
                    case 37: return new Result(2, pop(), gas);
                    case 38: return close();
                    case 39: pay(3); me.locked = true; break;
                    default: throw new AssertionError();
                }
            }
        }

        void store() throws Broken {
            pay(20);
            long v = pop();
            long k = pop();
            broken(look || !in(k, 0, 15));
            long old = own().cells[(int) k];
            if (old == 0 && v != 0) {
                pay(40);
            }
            if (old != 0 && v == 0) {
                world.giveBack += 15;
            }
            own().cells[(int) k] = v;
        }

        void callOut(boolean asLook) throws Broken {
            pay(asLook ? 25 : 30);
            long to = pop();
            long v = asLook ? 0 : pop();
            long arg = pop();
            long wanted = pop();
            broken(look && v != 0);
            long given = Math.min(Math.max(0, wanted), gas);
            gas -= given;
            Result r = call(me.account, to, v, arg, given, look || asLook);
            gas += r.gasBack;
            push(r.with);
            push(r.how == 1 ? 1 : 0);
        }

        void make() throws Broken {
            pay(100);
            long v = pop();
            long number = pop();
            broken(look);
            int made = -1;
            for (int a = 31; a >= 0; a--) {
                int account = a;
                boolean runs = running.stream().anyMatch(f -> f.account == account);
                if (world.accounts[a].isEmpty() && a != origin && !runs) {
                    made = a;
                }
            }
            if (!in(number, 0, codes.size() - 1) || v < 0 || v > own().balance) {
                made = -1;
            }
            if (made >= 0) {
                own().balance -= v;
                world.accounts[made].balance += v;
                world.accounts[made].code = (int) number;
            }
            push(made);
        }

        Result close() throws Broken {
            pay(20);
            long heir = pop();
            broken(look || !in(heir, 0, 31) || heir == me.account);
            world.accounts[(int) heir].balance += own().balance;
            own().balance = 0;
            own().code = -1;
            own().cells = new long[16];
            return new Result(1, 0, gas);
        }
    }

    private boolean isCertain(int block) {
        return block == 0 || 3 * votedFor(block) > 2 * java.util.Arrays.stream(weights).sum();
    }

    private int votedFor(int block) {
        return blocks.get(block).voters.stream().mapToInt(v -> weights[v]).sum();
    }

    int told(int block, int what) {
        index(in(block, 0, blocks.size() - 1) && in(what, 0, 6));
        Block b = blocks.get(block);
        return new int[] {b.parent, b.height, b.receipts.size(), b.events.size(), b.used, votedFor(block),
            isCertain(block) ? 1 : 0}[what];
    }

    long receipt(int block, int i, int what) {
        index(in(block, 0, blocks.size() - 1) && in(what, 0, 2));
        index(in(i, 0, blocks.get(block).receipts.size() - 1));
        return blocks.get(block).receipts.get(i)[what];
    }

    long event(int block, int i, int what) {
        index(in(block, 0, blocks.size() - 1) && in(what, 0, 3));
        index(in(i, 0, blocks.get(block).events.size() - 1));
        return blocks.get(block).events.get(i)[what];
    }

    long leaf(int block, int leaf) {
        index(in(block, 0, blocks.size() - 1) && in(leaf, 0, 1023));
        Account a = blocks.get(block).world.accounts[leaf / 32];
        int part = leaf % 32;
        if (part >= 16) {
            return a.cells[part - 16];
        }
        return part == 0 ? a.balance : part == 1 ? a.nonce : part == 2 ? a.code + 1 : 0;
    }

    private static long mix(long x, long y) {
        long z = (x ^ Long.rotateLeft(y, 23)) * 0x9E3779B97F4A7C15L + 1;
        return z ^ (z >>> 29);
    }

    private static long joined(long l, long r) {
        if (l == 0 && r == 0) {
            return 0;
        }
        return mix(l, r) == 0 ? 1 : mix(l, r);
    }

    private static long ofLeaf(int p, long v) {
        if (v == 0) {
            return 0;
        }
        return mix(p + 1, v) == 0 ? 1 : mix(p + 1, v);
    }

    long digest(int block, int level, int i) {
        index(in(block, 0, blocks.size() - 1) && in(level, 0, 10));
        index(in(i, 0, (1 << (10 - level)) - 1));
        long[] nodes = new long[1024];
        for (int p = 0; p < 1024; p++) {
            nodes[p] = ofLeaf(p, leaf(block, p));
        }
        for (int l = 0; l < level; l++) {
            for (int n = 0; 2 * n + 1 < nodes.length; n++) {
                nodes[n] = joined(nodes[2 * n], nodes[2 * n + 1]);
            }
        }
        return nodes[i];
    }

    long view(int block, int from, int to, long argument, int gas) {
        index(in(block, 0, blocks.size() - 1) && in(from, 0, 31) && in(to, 0, 31));
        argument(in(gas, 0, 30000));
        world = blocks.get(block).world.copy();
        height = blocks.get(block).height;
        origin = from;
        framesRun = 0;
        running.clear();
        Result r = call(from, to, 0, argument, gas, true);
        seen[0] = r.how;
        seen[1] = (int) (gas - r.gasBack);
        seen[2] = framesRun;
        return r.with;
    }

    int seen(int what) {
        index(in(what, 0, 2));
        return seen[what];
    }

    int vote(int voter, int block) {
        index(in(voter, 0, 6) && in(block, 1, blocks.size() - 1));
        Block b = blocks.get(block);
        boolean voted = blocks.stream().anyMatch(o -> o.height == b.height && o.voters.contains(voter));
        if (voted || !isCertain(b.parent)) {
            return -1;
        }
        b.voters.add(voter);
        return isCertain(block) ? 1 : 0;
    }

    int certain(int height) {
        index(in(height, 0, 39));
        for (int b = 0; b < blocks.size(); b++) {
            if (blocks.get(b).height == height && isCertain(b)) {
                return b;
            }
        }
        return -1;
    }

    void beside(int n, long digest) {
        index(in(n, 0, 9));
        beside[n] = digest;
    }

    boolean proves(long root, int leaf, long value) {
        index(in(leaf, 0, 1023));
        long d = ofLeaf(leaf, value);
        int i = leaf;
        for (int n = 0; n < 10; n++) {
            d = i % 2 == 0 ? joined(d, beside[n]) : joined(beside[n], d);
            i /= 2;
        }
        return d == root;
    }
}
