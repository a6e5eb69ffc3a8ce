import java.util.Arrays;

/** A machine of RV32IM whose memory is objects and places in them. */
public final class RvMachine {
    private static final int MOST_WORDS = 4000;
    private static final int MOST_STEPS = 10000;
    private static final int MOST_INPUT = 1000;
    private static final int MOST_OUTPUT = 4096;
    private static final int MOST_COPIED = 4000;

    private static final int NOT_BEGUN = 0;
    private static final int GOES_ON = 1;
    private static final int ENDED = 2;
    private static final int TRAPPED = 10;

    // What doing an instruction comes to: DONE, or the number of its trap.
    private static final int DONE = 0;
    private static final int NO_INSTRUCTION = 1;
    private static final int NO_MEMORY = 2;
    private static final int NO_ADDRESS = 3;
    private static final int REFUSED = 4;
    private static final int BREAK = 5;

    private static final int ECALL_WORD = 0x00000073;
    private static final int EBREAK_WORD = 0x00100073;

    private static final int A0 = 10;
    private static final int A1 = 11;
    private static final int A2 = 12;
    private static final int A7 = 17;
    private static final int NEXT_ADDRESS = 32;

    private int[] words;
    private int wordCount;
    private final int[] registers;
    private final Memory memory;
    private final Bytes unread;
    private final Bytes written;
    private int phase;
    private int done;
    // Always a multiple of 4: a jump to another address is a trap.
    private int next;
    private int following;

    public RvMachine() {
        words = new int[64];
        registers = new int[32];
        memory = new Memory();
        unread = new Bytes(MOST_INPUT);
        written = new Bytes(MOST_OUTPUT);
        phase = NOT_BEGUN;
    }

    public int word(int w) throws IllegalStateException {
        if (wordCount >= MOST_WORDS) {
            throw new IllegalStateException();
        }
        words = widened(words, wordCount + 1, MOST_WORDS);
        words[wordCount] = w;
        wordCount++;
        return wordCount;
    }

    public int change(int k, int w) throws IndexOutOfBoundsException {
        if (k < 0 || k >= wordCount) {
            throw new IndexOutOfBoundsException();
        }
        int before = words[k];
        words[k] = w;
        return before;
    }

    public void begin(int k) throws IndexOutOfBoundsException {
        if (k < 0 || k >= wordCount) {
            throw new IndexOutOfBoundsException();
        }
        Arrays.fill(registers, 0);
        memory.forgetAll();
        written.forgetAll();
        phase = GOES_ON;
        done = 0;
        next = 4 * k;
    }

    public int run(int n) throws IllegalArgumentException, IllegalStateException {
        if (n < 1 || n > MOST_STEPS) {
            throw new IllegalArgumentException();
        }
        if (phase != GOES_ON) {
            throw new IllegalStateException();
        }
        int before = done;
        for (int i = 0; i < n && phase == GOES_ON; i++) {
            doNext();
        }
        return done - before;
    }

    public int state() {
        return phase;
    }

    public int register(int k) throws IndexOutOfBoundsException {
        if (k < 0 || k > NEXT_ADDRESS) {
            throw new IndexOutOfBoundsException();
        }
        return k == NEXT_ADDRESS ? next : registers[k];
    }

    public int set(int k, int v) throws IndexOutOfBoundsException {
        if (k < 1 || k > 31) {
            throw new IndexOutOfBoundsException();
        }
        int before = registers[k];
        registers[k] = v;
        return before;
    }

    public int peek(int address) {
        return memory.holds(address, 1) ? memory.read(address, 1) : -1;
    }

    public int input(long w, int n) throws IllegalArgumentException, IllegalStateException {
        if (n < 0 || n > 8) {
            throw new IllegalArgumentException();
        }
        if (unread.held + n > MOST_INPUT) {
            throw new IllegalStateException();
        }
        for (int i = n - 1; i >= 0; i--) {
            unread.add((int) (w >>> (8 * i)));
        }
        return unread.held;
    }

    public long take() {
        int n = Math.min(8, written.held);
        long taken = 0;
        for (int i = 0; i < n; i++) {
            taken = taken << 8 | written.removeFirst();
        }
        return taken;
    }

    public int count(int what) throws IllegalArgumentException {
        switch (what) {
            case 0: return wordCount;
            case 1: return memory.made;
            case 2: return memory.bytes;
            case 3: return memory.lastOnes;
            case 4: return done;
            case 5: return written.held;
            case 6: return unread.held;
            default: throw new IllegalArgumentException();
        }
    }

    // Rows start small and grow only at need, so that a machine that does little takes little room.
    private static int[] widened(int[] row, int need, int most) {
        if (need <= row.length) {
            return row;
        }
        return Arrays.copyOf(row, Math.min(most, Math.max(need, 2 * row.length)));
    }

    private void doNext() {
        int k = next >>> 2;
        following = next + 4;
        int outcome = k < wordCount ? execute(words[k]) : NO_ADDRESS;
        if (outcome != DONE) {
            phase = TRAPPED + outcome;
            return;
        }
        done++;
        // A run that a service ended keeps the address of that service's ECALL.
        if (phase == GOES_ON) {
            next = following;
        }
    }

    private int execute(int w) {
        switch (w & 0x7f) {
            case 0x37: return keep(w, w & 0xfffff000);
            case 0x17: return keep(w, next + (w & 0xfffff000));
            case 0x6f: return jump(w, next + jumpOffset(w));
            case 0x67: return jumpByRegister(w);
            case 0x63: return branch(w);
            case 0x03: return load(w);
            case 0x23: return store(w);
            case 0x13: return operateWithConstant(w);
            case 0x33: return operate(w);
            case 0x0f: return middle(w) == 0 ? DONE : NO_INSTRUCTION;
            case 0x73: return w == ECALL_WORD ? serve() : w == EBREAK_WORD ? BREAK : NO_INSTRUCTION;
            default: return NO_INSTRUCTION;
        }
    }

    // The three bits that tell the instructions of one opcode apart (the manual's funct3).
    private static int middle(int w) {
        return w >>> 12 & 7;
    }

    // The highest seven bits (the manual's funct7).
    private static int top(int w) {
        return w >>> 25;
    }

    private int firstOperand(int w) {
        return registers[w >>> 15 & 31];
    }

    private int secondOperand(int w) {
        return registers[w >>> 20 & 31];
    }

    private int keep(int w, int value) {
        int target = w >>> 7 & 31;
        if (target != 0) {
            registers[target] = value;
        }
        return DONE;
    }

    private static int jumpOffset(int w) {
        return (w >> 31) << 20 | (w & 0xff000) | (w >> 9 & 0x800) | (w >> 20 & 0x7fe);
    }

    private static int branchOffset(int w) {
        return (w >> 31) << 12 | (w << 4 & 0x800) | (w >> 20 & 0x7e0) | (w >> 7 & 0x1e);
    }

    private static int storeOffset(int w) {
        return (w >> 25) << 5 | (w >> 7 & 0x1f);
    }

    private int goTo(int address) {
        if ((address & 3) != 0) {
            return NO_ADDRESS;
        }
        following = address;
        return DONE;
    }

    private int jump(int w, int address) {
        int outcome = goTo(address);
        return outcome == DONE ? keep(w, next + 4) : outcome;
    }

    private int jumpByRegister(int w) {
        if (middle(w) != 0) {
            return NO_INSTRUCTION;
        }
        return jump(w, (firstOperand(w) + (w >> 20)) & ~1);
    }

    private int branch(int w) {
        int a = firstOperand(w);
        int b = secondOperand(w);
        boolean taken;
        switch (middle(w)) {
            case 0: taken = a == b; break;
            case 1: taken = a != b; break;
            case 4: taken = a < b; break;
            case 5: taken = a >= b; break;
            case 6: taken = isBelow(a, b); break;
            case 7: taken = !isBelow(a, b); break;
            default: return NO_INSTRUCTION;
        }
        return taken ? goTo(next + branchOffset(w)) : DONE;
    }

    private int load(int w) {
        int kind = middle(w);
        if (kind == 3 || kind > 5) {
            return NO_INSTRUCTION;
        }
        int address = firstOperand(w) + (w >> 20);
        int size = 1 << (kind & 3);
        if (!memory.holdsAligned(address, size)) {
            return NO_MEMORY;
        }
        int value = memory.read(address, size);
        switch (kind) {
            case 0: return keep(w, (byte) value);
            case 1: return keep(w, (short) value);
            default: return keep(w, value);
        }
    }

    private int store(int w) {
        int kind = middle(w);
        if (kind > 2) {
            return NO_INSTRUCTION;
        }
        int address = firstOperand(w) + storeOffset(w);
        int size = 1 << kind;
        if (!memory.holdsAligned(address, size)) {
            return NO_MEMORY;
        }
        memory.write(address, size, secondOperand(w));
        return DONE;
    }

    private int operateWithConstant(int w) {
        int a = firstOperand(w);
        int b = w >> 20;
        switch (middle(w)) {
            case 1:
                return top(w) == 0 ? keep(w, a << (b & 31)) : NO_INSTRUCTION;
            case 5:
                if (top(w) == 0x20) {
                    return keep(w, a >> (b & 31));
                }
                return top(w) == 0 ? keep(w, a >>> (b & 31)) : NO_INSTRUCTION;
            default:
                return keep(w, plainResult(middle(w), a, b));
        }
    }

    private int operate(int w) {
        int a = firstOperand(w);
        int b = secondOperand(w);
        int kind = middle(w);
        switch (top(w)) {
            case 0:
                return keep(w, plainResult(kind, a, b));
            case 1:
                return keep(w, kind < 4 ? product(kind, a, b) : quotient(kind, a, b));
            case 0x20:
                if (kind == 0) {
                    return keep(w, a - b);
                }
                return kind == 5 ? keep(w, a >> (b & 31)) : NO_INSTRUCTION;
            default:
                return NO_INSTRUCTION;
        }
    }

    private static int plainResult(int kind, int a, int b) {
        switch (kind) {
            case 0: return a + b;
            case 1: return a << (b & 31);
            case 2: return a < b ? 1 : 0;
            case 3: return isBelow(a, b) ? 1 : 0;
            case 4: return a ^ b;
            case 5: return a >>> (b & 31);
            case 6: return a | b;
            default: return a & b;
        }
    }

    private static int product(int kind, int a, int b) {
        switch (kind) {
            case 0: return a * b;
            case 1: return (int) ((long) a * (long) b >> 32);
            case 2: return (int) ((long) a * unsigned(b) >> 32);
            default: return (int) (unsigned(a) * unsigned(b) >>> 32);
        }
    }

    private static int quotient(int kind, int a, int b) {
        if (b == 0) {
            return kind < 6 ? -1 : a;
        }
        switch (kind) {
            case 4: return (int) ((long) a / (long) b);
            case 5: return (int) (unsigned(a) / unsigned(b));
            case 6: return (int) ((long) a % (long) b);
            default: return (int) (unsigned(a) % unsigned(b));
        }
    }

    private static long unsigned(int a) {
        return a & 0xffffffffL;
    }

    private static boolean isBelow(int a, int b) {
        return unsigned(a) < unsigned(b);
    }

    private int serve() {
        int a0 = registers[A0];
        switch (registers[A7]) {
            case 0:
                phase = ENDED;
                return DONE;
            case 1:
                return answerAddress(memory.make(a0, false));
            case 2:
                return doneIf(memory.dropLast(a0));
            case 3:
                registers[A0] = memory.make(a0, true);
                return DONE;
            case 4:
                return doneIf(a0 == 0 || memory.dropGiven(a0));
            case 5:
                written.add(a0);
                return DONE;
            case 6:
                registers[A0] = unread.removeFirst();
                return DONE;
            case 7:
                return doneIf(a0 >>> 16 == registers[A1] >>> 16);
            case 8:
                return copyBytes(a0, registers[A1], registers[A2]);
            default:
                return REFUSED;
        }
    }

    private static int doneIf(boolean allowed) {
        return allowed ? DONE : REFUSED;
    }

    private int answerAddress(int address) {
        if (address == 0) {
            return REFUSED;
        }
        registers[A0] = address;
        return DONE;
    }

    private int copyBytes(int to, int from, int n) {
        if (n < 0 || n > MOST_COPIED) {
            return REFUSED;
        }
        if (n == 0) {
            return DONE;
        }
        if (!memory.holds(from, n) || !memory.holds(to, n)) {
            return NO_MEMORY;
        }
        memory.copy(to, from, n);
        return DONE;
    }

    /** The objects of a run, each by its number from 1 on; their bytes lie in one pool. */
    private static final class Memory {
        private static final int MOST_MADE = 8000;
        private static final int MOST_SIZE = 4000;
        private static final int MOST_BYTES = 40000;
        // Twice what can be there at once: a tidying then frees half of it, so that few are due.
        private static final int MOST_POOL = 2 * MOST_BYTES;
        private static final int GONE = -1;
        private static final int GIVEN = -1;

        private int made;
        private int bytes;
        private int lastOnes;
        private int newestLast;
        private int[] sizes;
        private int[] starts;
        // For a LAST object the number of the LAST one before it (0: none), else GIVEN.
        private int[] before;
        // Objects lie in it in the order of their numbers, with gaps where some are gone.
        private byte[] pool;
        private int poolEnd;
        // Copied over an object's bytes to clear them, which a loop would do far slower.
        private final byte[] blank;

        Memory() {
            sizes = new int[16];
            starts = new int[16];
            before = new int[16];
            pool = new byte[256];
            blank = new byte[MOST_SIZE];
        }

        void forgetAll() {
            made = 0;
            bytes = 0;
            lastOnes = 0;
            newestLast = 0;
            poolEnd = 0;
        }

        /** The address of a new object; 0 if there may be none. */
        int make(int size, boolean given) {
            if (size < 0 || size > MOST_SIZE || made >= MOST_MADE) {
                return 0;
            }
            int room = roundedUp(size);
            if (bytes + room > MOST_BYTES) {
                return 0;
            }
            if (poolEnd + room > pool.length) {
                tidy(room);
            }
            addNumber();
            sizes[made] = size;
            starts[made] = poolEnd;
            before[made] = given ? GIVEN : newestLast;
            if (!given) {
                newestLast = made;
                lastOnes++;
            }
            System.arraycopy(blank, 0, pool, poolEnd, room);
            poolEnd += room;
            bytes += room;
            return made << 16;
        }

        private void addNumber() {
            made++;
            sizes = widened(sizes, made + 1, MOST_MADE + 1);
            starts = widened(starts, made + 1, MOST_MADE + 1);
            before = widened(before, made + 1, MOST_MADE + 1);
        }

        private static int roundedUp(int size) {
            return (size + 3) & ~3;
        }

        // Closes the gaps; widens the pool if less than half of it would be free then.
        private void tidy(int room) {
            int end = 0;
            for (int k = 1; k <= made; k++) {
                if (sizes[k] != GONE) {
                    int length = roundedUp(sizes[k]);
                    System.arraycopy(pool, starts[k], pool, end, length);
                    starts[k] = end;
                    end += length;
                }
            }
            poolEnd = end;
            int wanted = 2 * (end + room);
            if (wanted > pool.length) {
                pool = Arrays.copyOf(pool, Math.min(MOST_POOL, 2 * wanted));
            }
        }

        boolean dropLast(int n) {
            if (n < 0 || n > lastOnes) {
                return false;
            }
            for (int i = 0; i < n; i++) {
                drop(newestLast);
                newestLast = before[newestLast];
            }
            lastOnes -= n;
            return true;
        }

        boolean dropGiven(int address) {
            int number = address >>> 16;
            if ((address & 0xffff) != 0 || !isThere(number) || before[number] != GIVEN) {
                return false;
            }
            drop(number);
            return true;
        }

        private void drop(int number) {
            int room = roundedUp(sizes[number]);
            // What lay at the pool's end leaves no gap: objects that come and go in turn need no tidying.
            if (starts[number] + room == poolEnd) {
                poolEnd = starts[number];
            }
            sizes[number] = GONE;
            bytes -= room;
        }

        private boolean isThere(int number) {
            return number >= 1 && number <= made && sizes[number] != GONE;
        }

        /** Whether n bytes (at least 1) from an address on are all in one object that is there. */
        boolean holds(int address, int n) {
            int number = address >>> 16;
            return isThere(number) && (address & 0xffff) + n <= sizes[number];
        }

        boolean holdsAligned(int address, int size) {
            return (address & (size - 1)) == 0 && holds(address, size);
        }

        // The methods below are for addresses that holds or holdsAligned has allowed.

        private int spot(int address) {
            return starts[address >>> 16] + (address & 0xffff);
        }

        int read(int address, int size) {
            int at = spot(address);
            int value = 0;
            for (int i = size - 1; i >= 0; i--) {
                value = value << 8 | (pool[at + i] & 0xff);
            }
            return value;
        }

        void write(int address, int size, int value) {
            int at = spot(address);
            for (int i = 0; i < size; i++) {
                pool[at + i] = (byte) (value >> 8 * i);
            }
        }

        void copy(int to, int from, int n) {
            System.arraycopy(pool, spot(from), pool, spot(to), n);
        }
    }

    /** Bytes in the order in which they came, in a ring; those that come when it is full are lost. */
    private static final class Bytes {
        private final byte[] ring;
        private int first;
        private int held;

        Bytes(int most) {
            ring = new byte[most];
        }

        void forgetAll() {
            first = 0;
            held = 0;
        }

        void add(int b) {
            if (held < ring.length) {
                ring[wrapped(first + held)] = (byte) b;
                held++;
            }
        }

        /** The oldest byte, 0 to 255; -1 if there is none. */
        int removeFirst() {
            if (held == 0) {
                return -1;
            }
            int b = ring[first] & 0xff;
            first = wrapped(first + 1);
            held--;
            return b;
        }

        private int wrapped(int at) {
            return at >= ring.length ? at - ring.length : at;
        }
    }
}
