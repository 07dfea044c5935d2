import java.util.Arrays;

/**
 * A ledger of accounts that have code. Words in capitals are those of the document.
 */
public final class LedgerMachine {
    public static final int NONE = -1;

    private static final int ACCOUNTS = 32;
    private static final int CELLS = 16;
    private static final int LEAVES = 1024;
    private static final int LEAVES_OF_ACCOUNT = 32;
    private static final int NONCE_LEAF = 1;
    private static final int CODE_LEAF = 2;
    private static final int FIRST_CELL_LEAF = 16;
    private static final int ROOT_LEVEL = 10;
    private static final long MIX_FACTOR = 0x9E3779B97F4A7C15L;

    private static final int OCTETS_MOST = 200;
    private static final int CODES_MOST = 16;
    private static final int STACK_MOST = 24;
    private static final int FRAMES_MOST = 10;
    private static final int ORDERS_MOST = 10;
    private static final int BLOCKS_MOST = 40;
    private static final int EVENTS_MOST = 60;
    private static final int VOTERS = 7;

    private static final long ENDOWED_MOST = 1L << 44;
    private static final long VALUE_MOST = 1L << 50;
    private static final int PRICE_MOST = 1000000;
    private static final int WEIGHT_MOST = 1000;
    private static final int GAS_MOST = 30000;
    private static final int GAS_OF_ORDER = 25;
    private static final int PART_GIVEN_BACK = 5;

    private static final int GOES_ON = 0;
    private static final int WELL = 1;
    private static final int UNDONE = 2;
    private static final int BROKEN = 3;
    private static final int CALLS = 4;

    private static final int RECEIPT_SIZE = 3;
    private static final int EVENT_SIZE = 4;

    private static final int STOP = 0;
    private static final int PUSH = 1;
    private static final int BIG = 2;
    private static final int POP = 3;
    private static final int DUP = 4;
    private static final int SWAP = 5;
    private static final int ADD = 6;
    private static final int SUB = 7;
    private static final int MUL = 8;
    private static final int DIV = 9;
    private static final int REM = 10;
    private static final int AND = 11;
    private static final int OR = 12;
    private static final int XOR = 13;
    private static final int SHL = 14;
    private static final int SHR = 15;
    private static final int LESS = 16;
    private static final int SAME = 17;
    private static final int NOT = 18;
    private static final int JUMP = 19;
    private static final int JUMPIF = 20;
    private static final int LOAD = 21;
    private static final int STORE = 22;
    private static final int SELF = 23;
    private static final int CALLER = 24;
    private static final int ORIGIN = 25;
    private static final int VALUE = 26;
    private static final int ARGUMENT = 27;
    private static final int HEIGHT = 28;
    private static final int GAS = 29;
    private static final int BALANCE = 30;
    private static final int CALL = 31;
    private static final int LOOK = 32;
    private static final int MAKE = 33;
    private static final int BECOME = 34;
    private static final int EMIT = 35;
    private static final int RETURN = 36;
    private static final int REVERT = 37;
    private static final int CLOSE = 38;
    private static final int LOCK = 39;
    private static final int ACTS = 40;

    private final Draft draft;
    private final Machine machine;
    private final Order[] orders;
    private int orderCount;
    private final Block[] blocks;
    private int blockCount;
    private final int[] weights;
    private final long[] votedHeights;
    private final long[] besides;
    private int viewEnding;
    private int viewGas;
    private int viewFrames;

    public LedgerMachine() {
        draft = new Draft();
        machine = new Machine();
        orders = new Order[ORDERS_MOST];
        blocks = new Block[BLOCKS_MOST];
        blocks[0] = new Block(NONE, 0, new long[LEAVES], new long[0], new long[0], 0);
        blockCount = 1;
        weights = new int[VOTERS];
        Arrays.fill(weights, 1);
        votedHeights = new long[VOTERS];
        besides = new long[ROOT_LEVEL];
    }

    public int draft(int n, long octets) throws IllegalArgumentException {
        if (n < 1 || n > 8 || !draft.hasRoomFor(n)) {
            throw new IllegalArgumentException("1 to 8 octets, and at most 200 in all");
        }
        return draft.append(n, octets);
    }

    public int code() throws IllegalStateException {
        if (machine.book.isFull()) {
            throw new IllegalStateException("there are 16 codes");
        }
        int fault = draft.fault();
        byte[] octets = draft.take();
        return fault == NONE ? machine.book.add(new Code(octets)) : -2 - fault;
    }

    public void endow(int account, long balance, int code)
            throws IndexOutOfBoundsException, IllegalArgumentException, IllegalStateException {
        if (!isAccount(account) || (code != NONE && !machine.book.has(code))) {
            throw new IndexOutOfBoundsException("no such account or code");
        }
        if (balance < 0 || balance > ENDOWED_MOST) {
            throw new IllegalArgumentException("the balance is not 0 to 2^44");
        }
        if (blockCount > 1) {
            throw new IllegalStateException("there is another block");
        }
        long[] leaves = blocks[0].leaves;
        leaves[LEAVES_OF_ACCOUNT * account] = balance;
        leaves[LEAVES_OF_ACCOUNT * account + CODE_LEAF] = code == NONE ? 0 : code + 1;
    }

    public void weight(int voter, int weight)
            throws IndexOutOfBoundsException, IllegalArgumentException, IllegalStateException {
        if (!isWithin(voter, VOTERS)) {
            throw new IndexOutOfBoundsException("no such voter");
        }
        if (weight < 0 || weight > WEIGHT_MOST) {
            throw new IllegalArgumentException("the weight is not 0 to 1000");
        }
        if (blockCount > 1) {
            throw new IllegalStateException("there is another block");
        }
        weights[voter] = weight;
    }

    public int order(int from, int to, long value, long argument, int gas, int price, int nonce)
            throws IndexOutOfBoundsException, IllegalArgumentException, IllegalStateException {
        if (!isAccount(from) || !isAccount(to)) {
            throw new IndexOutOfBoundsException("no such account");
        }
        if (value < 0 || value > VALUE_MOST || gas < 0 || gas > GAS_MOST || price < 0 || price > PRICE_MOST) {
            throw new IllegalArgumentException("value, gas or price is out of its bounds");
        }
        if (orderCount >= ORDERS_MOST) {
            throw new IllegalStateException("there are 10 orders");
        }
        orders[orderCount] = new Order(from, to, value, argument, gas, price, nonce);
        orderCount++;
        return orderCount;
    }

    public int block(int parent, int maker) throws IndexOutOfBoundsException, IllegalStateException {
        if (!isBlock(parent) || !isAccount(maker)) {
            throw new IndexOutOfBoundsException("no such parent or maker");
        }
        if (blockCount >= BLOCKS_MOST) {
            throw new IllegalStateException("there are 40 blocks");
        }
        int height = blocks[parent].height + 1;
        machine.load(blocks[parent].leaves, height);
        long[] receipts = new long[RECEIPT_SIZE * orderCount];
        int used = 0;
        for (int i = 0; i < orderCount; i++) {
            used += doOrder(i, maker, GAS_MOST - used, receipts);
        }
        orderCount = 0;
        int made = blockCount;
        blocks[made] = new Block(parent, height, machine.state.copyLeaves(), receipts, machine.events.copyRows(), used);
        blockCount++;
        return made;
    }

    public int told(int block, int what) throws IndexOutOfBoundsException {
        if (!isBlock(block) || !isWithin(what, 7)) {
            throw new IndexOutOfBoundsException("no such block, or nothing such to tell");
        }
        Block asked = blocks[block];
        switch (what) {
            case 0:
                return asked.parent;
            case 1:
                return asked.height;
            case 2:
                return asked.receipts.length / RECEIPT_SIZE;
            case 3:
                return asked.events.length / EVENT_SIZE;
            case 4:
                return asked.gasUsed;
            case 5:
                return asked.weightsFor;
            default:
                return isCertain(block) ? 1 : 0;
        }
    }

    public long receipt(int block, int i, int what) throws IndexOutOfBoundsException {
        if (!isBlock(block) || !isWithin(i, blocks[block].receipts.length / RECEIPT_SIZE)
                || !isWithin(what, RECEIPT_SIZE)) {
            throw new IndexOutOfBoundsException("no such block or order, or nothing such to tell");
        }
        return blocks[block].receipts[RECEIPT_SIZE * i + what];
    }

    public long event(int block, int i, int what) throws IndexOutOfBoundsException {
        if (!isBlock(block) || !isWithin(i, blocks[block].events.length / EVENT_SIZE)
                || !isWithin(what, EVENT_SIZE)) {
            throw new IndexOutOfBoundsException("no such block or event, or nothing such to tell");
        }
        return blocks[block].events[EVENT_SIZE * i + what];
    }

    public long leaf(int block, int leaf) throws IndexOutOfBoundsException {
        if (!isBlock(block) || !isWithin(leaf, LEAVES)) {
            throw new IndexOutOfBoundsException("no such block or leaf");
        }
        return blocks[block].leaves[leaf];
    }

    public long digest(int block, int level, int i) throws IndexOutOfBoundsException {
        if (!isBlock(block) || !isWithin(level, ROOT_LEVEL + 1) || !isWithin(i, LEAVES >> level)) {
            throw new IndexOutOfBoundsException("no such block, level or node");
        }
        return nodeDigest(blocks[block].leaves, level, i);
    }

    public long view(int block, int from, int to, long argument, int gas)
            throws IndexOutOfBoundsException, IllegalArgumentException {
        if (!isBlock(block) || !isAccount(from) || !isAccount(to)) {
            throw new IndexOutOfBoundsException("no such block or account");
        }
        if (gas < 0 || gas > GAS_MOST) {
            throw new IllegalArgumentException("gas is not 0 to 30000");
        }
        machine.load(blocks[block].leaves, blocks[block].height);
        machine.run(from, to, 0, argument, gas, true);
        viewEnding = machine.ending;
        viewGas = gas - machine.gasLeft;
        viewFrames = machine.framesRun;
        return machine.answer;
    }

    public int seen(int what) throws IndexOutOfBoundsException {
        if (!isWithin(what, 3)) {
            throw new IndexOutOfBoundsException("nothing such to tell");
        }
        if (what == 0) {
            return viewEnding;
        }
        return what == 1 ? viewGas : viewFrames;
    }

    public int vote(int voter, int block) throws IndexOutOfBoundsException {
        if (!isWithin(voter, VOTERS) || !isBlock(block) || block == 0) {
            throw new IndexOutOfBoundsException("no such voter or block");
        }
        Block chosen = blocks[block];
        long heightBit = 1L << chosen.height;
        if ((votedHeights[voter] & heightBit) != 0 || !isCertain(chosen.parent)) {
            return NONE;
        }
        votedHeights[voter] |= heightBit;
        chosen.weightsFor += weights[voter];
        return isCertain(block) ? 1 : 0;
    }

    public int certain(int height) throws IndexOutOfBoundsException {
        if (!isWithin(height, BLOCKS_MOST)) {
            throw new IndexOutOfBoundsException("the height is not 0 to 39");
        }
        for (int block = 0; block < blockCount; block++) {
            if (blocks[block].height == height && isCertain(block)) {
                return block;
            }
        }
        return NONE;
    }

    public void beside(int n, long digest) throws IndexOutOfBoundsException {
        if (!isWithin(n, ROOT_LEVEL)) {
            throw new IndexOutOfBoundsException("n is not 0 to 9");
        }
        besides[n] = digest;
    }

    public boolean proves(long root, int leaf, long value) throws IndexOutOfBoundsException {
        if (!isWithin(leaf, LEAVES)) {
            throw new IndexOutOfBoundsException("no such leaf");
        }
        long node = leafDigest(leaf, value);
        for (int level = 0; level < ROOT_LEVEL; level++) {
            boolean isRight = (leaf >> level & 1) != 0;
            node = isRight ? pairDigest(besides[level], node) : pairDigest(node, besides[level]);
        }
        return node == root;
    }

    private static boolean isWithin(long i, int bound) {
        return i >= 0 && i < bound;
    }

    private static boolean isAccount(long account) {
        return isWithin(account, ACCOUNTS);
    }

    private boolean isBlock(int block) {
        return isWithin(block, blockCount);
    }

    private boolean isCertain(int block) {
        if (block == 0) {
            return true;
        }
        int all = 0;
        for (int voter = 0; voter < VOTERS; voter++) {
            all += weights[voter];
        }
        return isBlock(block) && 3 * blocks[block].weightsFor > 2 * all;
    }

    /** Does the i-th ORDER on the machine's STATE and answers the gas that it used. A VOID one leaves its receipt 0. */
    private int doOrder(int i, int maker, int gasLeft, long[] receipts) {
        Order order = orders[i];
        if (isVoid(order, gasLeft)) {
            return 0;
        }
        State state = machine.state;
        state.raiseNonce(order.from);
        state.addToBalance(order.from, -order.priceOf(order.gas));
        machine.events.beginOrder(i);
        machine.run(order.from, order.to, order.value, order.argument, order.gas - GAS_OF_ORDER, false);
        int used = order.gas - machine.gasLeft;
        used -= Math.min(machine.giveBack, used / PART_GIVEN_BACK);
        state.addToBalance(order.from, order.priceOf(order.gas - used));
        state.addToBalance(maker, order.priceOf(used));
        receipts[RECEIPT_SIZE * i] = machine.ending;
        receipts[RECEIPT_SIZE * i + 1] = used;
        receipts[RECEIPT_SIZE * i + 2] = machine.answer;
        return used;
    }

    private boolean isVoid(Order order, int gasLeft) {
        return order.nonce != machine.state.nonceOf(order.from)
                || order.gas < GAS_OF_ORDER
                || order.gas > gasLeft
                || order.priceOf(order.gas) + order.value > machine.state.balanceOf(order.from);
    }

    private static long leafDigest(int leaf, long value) {
        return value == 0 ? 0 : neverZero(mix(leaf + 1, value));
    }

    private static long pairDigest(long left, long right) {
        return left == 0 && right == 0 ? 0 : neverZero(mix(left, right));
    }

    /** Calls itself as deep as the level is high, which is at most 10. */
    private static long nodeDigest(long[] leaves, int level, int i) {
        if (level <= 0) {
            return leafDigest(i, leaves[i]);
        }
        return pairDigest(nodeDigest(leaves, level - 1, 2 * i), nodeDigest(leaves, level - 1, 2 * i + 1));
    }

    private static long mix(long x, long y) {
        long turned = y << 23 | y >>> 41;
        long z = (x ^ turned) * MIX_FACTOR + 1;
        return z ^ z >>> 29;
    }

    /** 0 is kept for what is not there. */
    private static long neverZero(long digest) {
        return digest == 0 ? 1 : digest;
    }

    /** A CODE that was JUDGED to have no FAULT. */
    private static final class Code {
        private final byte[] octets;

        Code(byte[] octets) {
            this.octets = octets;
        }

        /** Behind the last ACT is STOP. */
        int octetAt(int place) {
            return place >= 0 && place < octets.length ? octets[place] & 0xFF : STOP;
        }

        long numberAt(int place) {
            long number = 0;
            for (int i = 0; i < 8; i++) {
                number = number << 8 | octetAt(place + i);
            }
            return number;
        }

        static int octetsBehind(int act) {
            switch (act) {
                case PUSH:
                case DUP:
                case SWAP:
                case JUMP:
                case JUMPIF:
                    return 1;
                case BIG:
                    return 8;
                default:
                    return 0;
            }
        }
    }

    private static final class CodeBook {
        private final Code[] codes = new Code[CODES_MOST];
        private int count;

        boolean isFull() {
            return count >= CODES_MOST;
        }

        boolean has(long number) {
            return isWithin(number, count);
        }

        int add(Code judged) {
            codes[count] = judged;
            count++;
            return count - 1;
        }
    }

    /** THE DRAFT. */
    private static final class Draft {
        private final byte[] octets = new byte[OCTETS_MOST];
        private final boolean[] begins = new boolean[OCTETS_MOST];
        private int size;

        boolean hasRoomFor(int n) {
            return size + n <= OCTETS_MOST;
        }

        int append(int n, long row) {
            for (int i = n - 1; i >= 0; i--) {
                octets[size] = (byte) (row >> 8 * i);
                size++;
            }
            return size;
        }

        byte[] take() {
            byte[] taken = Arrays.copyOf(octets, size);
            size = 0;
            return taken;
        }

        /** The place of the FAULT, or NONE. */
        int fault() {
            int place = firstActThatIsNone();
            return place == NONE ? firstLostJump() : place;
        }

        /** Marks on its way where ACTS begin. */
        private int firstActThatIsNone() {
            for (int place = 0; place < size; place++) {
                begins[place] = false;
            }
            for (int place = 0; place < size; place += actSize(place)) {
                if ((octets[place] & 0xFF) >= ACTS || place + actSize(place) > size) {
                    return place;
                }
                begins[place] = true;
            }
            return size == 0 ? 0 : NONE;
        }

        private int actSize(int place) {
            return 1 + Code.octetsBehind(octets[place] & 0xFF);
        }

        private int firstLostJump() {
            for (int place = 0; place < size - 1; place++) {
                boolean isJump = octets[place] == JUMP || octets[place] == JUMPIF;
                if (begins[place] && isJump && !isBegun(octets[place + 1] & 0xFF)) {
                    return place;
                }
            }
            return NONE;
        }

        private boolean isBegun(int place) {
            return place < size && begins[place];
        }
    }

    /** An ORDER. */
    private static final class Order {
        private final int from;
        private final int to;
        private final long value;
        private final long argument;
        private final int gas;
        private final int price;
        private final int nonce;

        Order(int from, int to, long value, long argument, int gas, int price, int nonce) {
            this.from = from;
            this.to = to;
            this.value = value;
            this.argument = argument;
            this.gas = gas;
            this.price = price;
            this.nonce = nonce;
        }

        long priceOf(int someGas) {
            return (long) someGas * price;
        }
    }

    /** A BLOCK, with the STATE that it left and what came of its ORDERS. */
    private static final class Block {
        private final int parent;
        private final int height;
        private final long[] leaves;
        private final long[] receipts;
        private final long[] events;
        private final int gasUsed;
        private int weightsFor;

        Block(int parent, int height, long[] leaves, long[] receipts, long[] events, int gasUsed) {
            this.parent = parent;
            this.height = height;
            this.leaves = leaves;
            this.receipts = receipts;
            this.events = events;
            this.gasUsed = gasUsed;
        }
    }

    /** EVENTS of the BLOCK that is being made. */
    private static final class EventLog {
        private final long[] rows = new long[EVENT_SIZE * EVENTS_MOST];
        private int count;
        private int order;

        void clear() {
            count = 0;
        }

        void beginOrder(int i) {
            order = i;
        }

        /** Counts on above the most, so that what is UNDONE later takes its own away and no others. */
        void add(int account, long topic, long datum) {
            if (count < EVENTS_MOST) {
                rows[EVENT_SIZE * count] = account;
                rows[EVENT_SIZE * count + 1] = topic;
                rows[EVENT_SIZE * count + 2] = datum;
                rows[EVENT_SIZE * count + 3] = order;
            }
            count++;
        }

        void backTo(int formerCount) {
            count = formerCount;
        }

        long[] copyRows() {
            return Arrays.copyOf(rows, EVENT_SIZE * Math.min(count, EVENTS_MOST));
        }
    }

    /** The STATE that is worked on, as its LEAVES. */
    private static final class State {
        private final long[] leaves = new long[LEAVES];

        void loadFrom(long[] row) {
            System.arraycopy(row, 0, leaves, 0, LEAVES);
        }

        void saveTo(long[] row) {
            System.arraycopy(leaves, 0, row, 0, LEAVES);
        }

        long[] copyLeaves() {
            return leaves.clone();
        }

        long balanceOf(int account) {
            return leaves[LEAVES_OF_ACCOUNT * account];
        }

        void addToBalance(int account, long amount) {
            leaves[LEAVES_OF_ACCOUNT * account] += amount;
        }

        void move(int from, int to, long amount) {
            addToBalance(from, -amount);
            addToBalance(to, amount);
        }

        long nonceOf(int account) {
            return leaves[LEAVES_OF_ACCOUNT * account + NONCE_LEAF];
        }

        void raiseNonce(int account) {
            leaves[LEAVES_OF_ACCOUNT * account + NONCE_LEAF]++;
        }

        /** NONE without. */
        long codeOf(int account) {
            return leaves[LEAVES_OF_ACCOUNT * account + CODE_LEAF] - 1;
        }

        void setCode(int account, long number) {
            leaves[LEAVES_OF_ACCOUNT * account + CODE_LEAF] = number + 1;
        }

        long cellOf(int account, int cell) {
            return leaves[LEAVES_OF_ACCOUNT * account + FIRST_CELL_LEAF + cell];
        }

        void setCell(int account, int cell, long value) {
            leaves[LEAVES_OF_ACCOUNT * account + FIRST_CELL_LEAF + cell] = value;
        }

        void clearCells(int account) {
            for (int cell = 0; cell < CELLS; cell++) {
                setCell(account, cell, 0);
            }
        }

        boolean isEmpty(int account) {
            for (int i = 0; i < LEAVES_OF_ACCOUNT; i++) {
                if (leaves[LEAVES_OF_ACCOUNT * account + i] != 0) {
                    return false;
                }
            }
            return true;
        }
    }

    /** What a CALL is made with. */
    private static final class Call {
        private int caller;
        private long to;
        private long value;
        private long argument;
        private int gas;
        private boolean isLook;

        void set(int byCaller, long toAccount, long withValue, long withArgument, int withGas, boolean asLook) {
            caller = byCaller;
            to = toAccount;
            value = withValue;
            argument = withArgument;
            gas = withGas;
            isLook = asLook;
        }
    }

    /** A FRAME. */
    private static final class Frame {
        private static final int[] TAKES = {
            0, 0, 0, 1, 0, 0, 2, 2, 2, 2, 2, 2, 2, 2, 2, 2, 2, 2, 1, 0,
            1, 1, 2, 0, 0, 0, 0, 0, 0, 0, 1, 4, 3, 2, 1, 2, 1, 1, 1, 0};

        private final long[] stack = new long[STACK_MOST];
        private final long[] leavesBefore = new long[LEAVES];
        private int eventsBefore;
        private int giveBackBefore;
        private int size;
        private Code code;
        private int place;
        private int operandPlace;
        private int gas;
        private int account;
        private int caller;
        private long value;
        private long argument;
        private boolean isLook;
        private boolean hasLock;

        void begin(Call call, Code judged) {
            code = judged;
            account = (int) call.to;
            caller = call.caller;
            value = call.value;
            argument = call.argument;
            gas = call.gas;
            isLook = call.isLook;
            hasLock = false;
            size = 0;
            place = 0;
        }

        int nextAct() {
            int act = code.octetAt(place);
            operandPlace = place + 1;
            place += 1 + Code.octetsBehind(act);
            return act;
        }

        private int operand() {
            return code.octetAt(operandPlace);
        }

        boolean pays(int cost) {
            if (gas < cost) {
                return false;
            }
            gas -= cost;
            return true;
        }

        /** Takes the gas that a CALL gets from what is left. */
        int giveGas(long wanted) {
            int given = (int) Math.min(Math.max(wanted, 0), gas);
            gas -= given;
            return given;
        }

        boolean fits(int act) {
            int takes = act == DUP || act == SWAP ? operand() + 1 : TAKES[act];
            return size >= takes && (size < STACK_MOST || !leavesOneMore(act));
        }

        private static boolean leavesOneMore(int act) {
            return act == PUSH || act == BIG || act == DUP || act >= SELF && act <= GAS;
        }

        void push(long number) {
            stack[size] = number;
            size++;
        }

        long pop() {
            size--;
            return stack[size];
        }

        /** PUSH to SWAP. */
        void arrange(int act) {
            switch (act) {
                case PUSH:
                    push((byte) operand());
                    break;
                case BIG:
                    push(code.numberAt(operandPlace));
                    break;
                case POP:
                    pop();
                    break;
                case DUP:
                    push(stack[size - 1 - operand()]);
                    break;
                default:
                    swap(size - 1, size - 1 - operand());
                    break;
            }
        }

        private void swap(int i, int j) {
            long number = stack[i];
            stack[i] = stack[j];
            stack[j] = number;
        }

        /** ADD to NOT. */
        int reckon(int act) {
            long b = pop();
            if (act == NOT) {
                push(b == 0 ? 1 : 0);
                return GOES_ON;
            }
            long a = pop();
            if (act == DIV || act == REM) {
                if (b == 0) {
                    return BROKEN;
                }
                push(act == DIV ? a / b : a % b);
                return GOES_ON;
            }
            push(joined(act, a, b));
            return GOES_ON;
        }

        private static long joined(int act, long a, long b) {
            switch (act) {
                case ADD:
                    return a + b;
                case SUB:
                    return a - b;
                case MUL:
                    return a * b;
                case AND:
                    return a & b;
                case OR:
                    return a | b;
                case XOR:
                    return a ^ b;
                case SHL:
                    return a << b;
                case SHR:
                    return a >> b;
                case LESS:
                    return a < b ? 1 : 0;
                default:
                    return a == b ? 1 : 0;
            }
        }

        void jump() {
            place = operand();
        }
    }

    /** What runs CALLS: FRAMES within one another, on a STATE. */
    private static final class Machine {
        private static final int[] COSTS = {
            0, 1, 2, 1, 1, 1, 1, 1, 2, 3, 3, 1, 1, 1, 1, 1, 1, 1, 1, 2,
            2, 10, 20, 1, 1, 1, 1, 1, 1, 1, 5, 30, 25, 100, 40, 15, 0, 0, 20, 3};
        private static final int COST_OF_NEW_CELL = 40;
        private static final int GIVEN_BACK_FOR_CELL = 15;
        /** Each ACT takes gas or ends a FRAME, so that gas ends a run long before. */
        private static final int STEPS_MOST = 1000000;

        private final CodeBook book = new CodeBook();
        private final State state = new State();
        private final EventLog events = new EventLog();
        private final Call next = new Call();
        private final Frame[] frames = new Frame[FRAMES_MOST];
        private int depth;
        private int height;
        private int origin;
        private int giveBack;
        private int framesRun;
        private int ending;
        private long answer;
        private int gasLeft;

        Machine() {
            for (int i = 0; i < FRAMES_MOST; i++) {
                frames[i] = new Frame();
            }
        }

        void load(long[] leaves, int atHeight) {
            state.loadFrom(leaves);
            events.clear();
            height = atHeight;
        }

        /** A CALL, or a LOOK, from an ORIGIN: ending, answer, gasLeft, giveBack and framesRun tell what came of it. */
        void run(int from, int to, long value, long argument, int gas, boolean isLook) {
            origin = from;
            depth = 0;
            giveBack = 0;
            framesRun = 0;
            next.set(from, to, value, argument, gas, isLook);
            begin();
            for (int steps = 0; depth > 0 && steps < STEPS_MOST; steps++) {
                Frame frame = frames[depth - 1];
                int act = frame.nextAct();
                boolean isAllowed = frame.pays(COSTS[act]) && frame.fits(act) && !(frame.isLook && changesState(act));
                int outcome = isAllowed ? perform(frame, act) : BROKEN;
                if (outcome == CALLS) {
                    begin();
                } else if (outcome != GOES_ON) {
                    finish(frame, outcome);
                }
            }
        }

        private static boolean changesState(int act) {
            return act == STORE || act == MAKE || act == BECOME || act == EMIT || act == CLOSE;
        }

        /** The next CALL ends at once, or a FRAME begins that runs it. */
        private void begin() {
            if (fails()) {
                end(UNDONE, 0, next.gas);
                return;
            }
            int account = (int) next.to;
            long number = state.codeOf(account);
            if (!book.has(number)) {
                state.move(next.caller, account, next.value);
                end(WELL, 0, next.gas);
                return;
            }
            Frame frame = frames[depth];
            frame.begin(next, book.codes[(int) number]);
            remember(frame);
            state.move(next.caller, account, next.value);
            depth++;
            framesRun++;
        }

        private boolean fails() {
            return !isAccount(next.to) || next.value < 0 || next.value > state.balanceOf(next.caller)
                    || depth >= FRAMES_MOST || hasLock((int) next.to);
        }

        private boolean hasLock(int account) {
            for (int i = 0; i < depth; i++) {
                if (frames[i].account == account && frames[i].hasLock) {
                    return true;
                }
            }
            return false;
        }

        private boolean hasFrame(int account) {
            for (int i = 0; i < depth; i++) {
                if (frames[i].account == account) {
                    return true;
                }
            }
            return false;
        }

        /** A LOOK changes nothing, so that there is nothing to put back behind it. */
        private void remember(Frame frame) {
            if (!frame.isLook) {
                state.saveTo(frame.leavesBefore);
                frame.eventsBefore = events.count;
                frame.giveBackBefore = giveBack;
            }
        }

        private void undo(Frame frame) {
            if (!frame.isLook) {
                state.loadFrom(frame.leavesBefore);
                events.backTo(frame.eventsBefore);
                giveBack = frame.giveBackBefore;
            }
        }

        private void finish(Frame frame, int how) {
            if (how != WELL) {
                undo(frame);
            }
            depth--;
            end(how, how == BROKEN ? 0 : answer, how == BROKEN ? 0 : frame.gas);
        }

        /** Tells the FRAME that CALLED, if there is one, what came of it. */
        private void end(int how, long with, int gas) {
            ending = how;
            answer = with;
            gasLeft = gas;
            if (depth > 0) {
                Frame caller = frames[depth - 1];
                caller.gas += gas;
                caller.push(with);
                caller.push(how == WELL ? 1 : 0);
            }
        }

        /** GOES_ON, CALLS (what stands in next), or how the FRAME ends. */
        private int perform(Frame frame, int act) {
            switch (act) {
                case STOP:
                    return endWith(WELL, 0);
                case PUSH:
                case BIG:
                case POP:
                case DUP:
                case SWAP:
                    frame.arrange(act);
                    return GOES_ON;
                case JUMP:
                case JUMPIF:
                    if (act == JUMP || frame.pop() != 0) {
                        frame.jump();
                    }
                    return GOES_ON;
                case LOAD:
                    return loadCell(frame);
                case STORE:
                    return storeCell(frame, frame.pop(), frame.pop());
                case CALL:
                    return prepareCall(frame);
                case LOOK:
                    return prepareLook(frame);
                case MAKE:
                    return make(frame, frame.pop(), frame.pop());
                case BECOME:
                    return become(frame, frame.pop());
                case EMIT:
                    return emit(frame, frame.pop(), frame.pop());
                case RETURN:
                    return endWith(WELL, frame.pop());
                case REVERT:
                    return endWith(UNDONE, frame.pop());
                case CLOSE:
                    return close(frame, frame.pop());
                case LOCK:
                    frame.hasLock = true;
                    return GOES_ON;
                default:
                    return act <= NOT ? frame.reckon(act) : tell(frame, act);
            }
        }

        private int endWith(int how, long with) {
            answer = with;
            return how;
        }

        /** SELF to BALANCE. */
        private int tell(Frame frame, int act) {
            if (act == BALANCE) {
                long account = frame.pop();
                frame.push(isAccount(account) ? state.balanceOf((int) account) : 0);
            } else {
                frame.push(known(frame, act));
            }
            return GOES_ON;
        }

        private long known(Frame frame, int act) {
            switch (act) {
                case SELF:
                    return frame.account;
                case CALLER:
                    return frame.caller;
                case ORIGIN:
                    return origin;
                case VALUE:
                    return frame.value;
                case ARGUMENT:
                    return frame.argument;
                case HEIGHT:
                    return height;
                default:
                    return frame.gas;
            }
        }

        private int loadCell(Frame frame) {
            long cell = frame.pop();
            if (!isWithin(cell, CELLS)) {
                return BROKEN;
            }
            frame.push(state.cellOf(frame.account, (int) cell));
            return GOES_ON;
        }

        private int storeCell(Frame frame, long value, long cell) {
            if (!isWithin(cell, CELLS)) {
                return BROKEN;
            }
            long old = state.cellOf(frame.account, (int) cell);
            if (old == 0 && value != 0 && !frame.pays(COST_OF_NEW_CELL)) {
                return BROKEN;
            }
            if (old != 0 && value == 0) {
                giveBack += GIVEN_BACK_FOR_CELL;
            }
            state.setCell(frame.account, (int) cell, value);
            return GOES_ON;
        }

        private int prepareCall(Frame frame) {
            long to = frame.pop();
            long value = frame.pop();
            long argument = frame.pop();
            long gas = frame.pop();
            if (frame.isLook && value != 0) {
                return BROKEN;
            }
            next.set(frame.account, to, value, argument, frame.giveGas(gas), frame.isLook);
            return CALLS;
        }

        private int prepareLook(Frame frame) {
            long to = frame.pop();
            long argument = frame.pop();
            long gas = frame.pop();
            next.set(frame.account, to, 0, argument, frame.giveGas(gas), true);
            return CALLS;
        }

        private int make(Frame frame, long value, long number) {
            boolean isPaid = value >= 0 && value <= state.balanceOf(frame.account);
            int made = isPaid && book.has(number) ? leastFreeAccount() : NONE;
            if (made != NONE) {
                state.move(frame.account, made, value);
                state.setCode(made, number);
            }
            frame.push(made);
            return GOES_ON;
        }

        private int leastFreeAccount() {
            for (int account = 0; account < ACCOUNTS; account++) {
                if (account != origin && !hasFrame(account) && state.isEmpty(account)) {
                    return account;
                }
            }
            return NONE;
        }

        private int become(Frame frame, long number) {
            if (!book.has(number)) {
                return BROKEN;
            }
            state.setCode(frame.account, number);
            return GOES_ON;
        }

        private int emit(Frame frame, long datum, long topic) {
            events.add(frame.account, topic, datum);
            return GOES_ON;
        }

        private int close(Frame frame, long heir) {
            if (!isAccount(heir) || heir == frame.account) {
                return BROKEN;
            }
            state.move(frame.account, (int) heir, state.balanceOf(frame.account));
            state.setCode(frame.account, NONE);
            state.clearCells(frame.account);
            return endWith(WELL, 0);
        }
    }
}
