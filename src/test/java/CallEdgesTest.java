/** The edges that promises 1 to 12 name, each with what is just inside it, at it and just outside it. */
public final class CallEdgesTest {
    private static final int MIN = Integer.MIN_VALUE;
    private static final int MAX = Integer.MAX_VALUE;
    private static final Class<IllegalArgumentException> ARGUMENT = IllegalArgumentException.class;
    private static final Class<IllegalStateException> STATE = IllegalStateException.class;
    private static final Class<IndexOutOfBoundsException> INDEX = IndexOutOfBoundsException.class;

    public static void main(String[] args) {
        Due due = new Due("CallEdgesTest");
        newObject(due);
        wordFull(due);
        changeNone(due);
        beginNone(due);
        beginAnew(due);
        beginKeeps(due);
        runMost(due);
        runCounts(due);
        runWithoutRun(due);
        stateOfEach(due);
        registerOthers(due);
        registerNext(due);
        setOthers(due);
        setWhetherOrNot(due);
        countOthers(due);
        due.end();
    }

    private static void newObject(Due due) {
        due.about("No WORDS, no OBJECTS, no input; nothing runs");
        RvMachine m = new RvMachine();
        due.isSame("a new object", Seen.now(m, 0, 65536),
            "state 0, registers" + " 0".repeat(33) + ", counts" + " 0".repeat(7) + ", bytes -1 -1");
        due.is("take()", m.take(), 0);
        due.isThrown("change(0, 1)", INDEX, () -> m.change(0, 1));
        due.isThrown("begin(0)", INDEX, () -> m.begin(0));
        due.isThrown("run(1)", STATE, () -> m.run(1));
        due.is("the first word", m.word(Asm.EBREAK), 1);
        due.is("state() of a word that was not begun", m.state(), 0);
    }

    // 4000 words take more calls than are promised to an object; the limit is kept all the same.
    private static void wordFull(Due due) {
        due.about("IllegalStateException if there are 4000");
        RvMachine m = new RvMachine();
        for (int k = 1; k < 4000; k++) {
            due.is("word " + k, m.word(k), k);
        }
        due.is("count(0)", m.count(0), 3999);
        due.is("word 4000", m.word(4000), 4000);
        for (int i = 0; i < 2; i++) {
            due.isThrown("word 4001", STATE, () -> m.word(77));
            due.is("count(0)", m.count(0), 4000);
        }
        for (int k = 0; k < 4000; k++) {
            due.is("change(" + k + ", 19)", m.change(k, Asm.NOP), k + 1);
        }
        due.isThrown("change(4000, 0)", INDEX, () -> m.change(4000, 0));
        due.isThrown("begin(4000)", INDEX, () -> m.begin(4000));
        m.begin(3999);
        due.is("the last of 4000 is done", m.run(2), 1);
        due.is("register(32) behind it", m.register(32), 16000);
        due.is("state() behind it", m.state(), 13);
    }

    private static void changeNone(Due due) {
        due.about("WORD k becomes w: what it was. IndexOutOfBoundsException if there is none");
        for (int n = 0; n <= 70; n++) {
            RvMachine m = new RvMachine();
            for (int k = 0; k < n; k++) {
                m.word(100 + k);
            }
            int count = n;
            due.isThrown("change(" + n + ") of " + n, INDEX, () -> m.change(count, 1));
            due.isThrown("change(-1) of " + n, INDEX, () -> m.change(-1, 1));
            if (n > 0) {
                due.is("change of the last of " + n, m.change(n - 1, MIN), 99 + n);
                due.is("change of the last again", m.change(n - 1, MAX), MIN);
                due.is("change of the first", m.change(0, 5), n == 1 ? MAX : 100);
            }
            due.is("count(0)", m.count(0), n);
            due.is("a word more", m.word(9), n + 1);
            due.is("change of it", m.change(n, 0), 9);
        }
    }

    private static void beginNone(Due due) {
        due.about("IndexOutOfBoundsException if there is no word k");
        for (int n = 1; n <= 3; n++) {
            RvMachine m = new RvMachine();
            for (int k = 0; k < n; k++) {
                m.word(Asm.li(5, 40 + k));
            }
            int count = n;
            for (int k = 0; k < n; k++) {
                m.begin(k);
                due.is("register(32) after begin(" + k + ")", m.register(32), 4 * k);
                due.is("run(1)", m.run(1), 1);
                due.is("the word that is done", m.register(5), 40 + k);
            }
            due.isThrown("begin(" + n + ") of " + n, INDEX, () -> m.begin(count));
            due.isThrown("begin(-1) of " + n, INDEX, () -> m.begin(-1));
            due.is("register(5) after what was refused", m.register(5), 39 + n);
            due.is("count(4) after what was refused", m.count(4), 1);
        }
    }

    private static void beginAnew(Due due) {
        due.about("REGISTERS are 0, no OBJECTS, what was written and not taken is gone");
        for (int state : Busy.STATES) {
            RvMachine m = Busy.inState(state);
            int words = m.count(0);
            int unread = m.count(6);
            m.begin(words - 1);
            due.isSame("begun from state " + state, Seen.now(m, Busy.ADDRESSES),
                "state 1, registers" + " 0".repeat(32) + " " + 4 * (words - 1) + ", counts " + words + " 0 0 0 0 0 "
                + unread + ", bytes" + " -1".repeat(Busy.ADDRESSES.length));
            due.is("take() from state " + state, m.take(), 0);
        }
        RvMachine m = Asm.forServices();
        Asm.call(m, 1, 4);
        Asm.call(m, 3, 4);
        m.begin(0);
        Edge.trappedService(due, m, 4, new int[] {2, 1, 0, 0});
        m.begin(0);
        Edge.trappedService(due, m, 4, new int[] {4, 0x20000, 0, 0});
        m.begin(0);
        due.is("the first object of a run", Asm.call(m, 1, 4), 0x10000);
    }

    private static void beginKeeps(Due due) {
        due.about("WORDS and the input stay");
        for (int state : Busy.STATES) {
            RvMachine m = Busy.inState(state);
            RvMachine twin = Busy.inState(state);
            m.begin(0);
            twin.begin(1);
            twin.begin(0);
            due.isSame("begun from state " + state, Seen.later(m, Busy.ADDRESSES), Seen.later(twin, Busy.ADDRESSES));
        }
        RvMachine m = Asm.forServices();
        m.input(0x1122, 2);
        due.is("the first byte", Asm.call(m, 6, 0), 0x11);
        m.begin(0);
        due.is("count(0)", m.count(0), 2);
        due.is("count(6)", m.count(6), 1);
        due.is("the second byte in the next run", Asm.call(m, 6, 0), 0x22);
        m.begin(0);
        due.is("nothing behind it", Asm.call(m, 6, 0), -1);
    }

    private static void runMost(Due due) {
        due.about("At most n (1 to 10000) instructions are done");
        RvMachine m = Asm.begun(Asm.addi(5, 5, 1), Asm.jal(0, -4));
        int sum = 0;
        for (int n : new int[] {1, 2, 9999, 10000}) {
            due.is("run(" + n + ")", m.run(n), n);
            sum += n;
            due.is("count(4)", m.count(4), sum);
            due.is("register(5)", m.register(5), (sum + 1) / 2);
            due.is("register(32)", m.register(32), sum % 2 * 4);
        }
        for (int n : new int[] {0, -1, 10001, MIN, MAX}) {
            due.isThrown("run(" + n + ")", ARGUMENT, () -> m.run(n));
            due.is("count(4)", m.count(4), sum);
        }
    }

    private static void runCounts(Due due) {
        due.about("one that ends the RUN by ECALL counts, one that is a TRAP does not");
        int[][] rows = {{Asm.ECALL, 1, 2}, {0, 0, 11}, {Asm.lw(6, 0, 0), 0, 12}, {Asm.jal(6, 2), 0, 13},
            {Asm.EBREAK, 0, 15}};
        for (int[] row : rows) {
            for (int n = 1; n <= 5; n++) {
                String what = "run(" + n + ") to " + Integer.toHexString(row[0]);
                RvMachine m = Asm.begun(Asm.NOP, Asm.NOP, row[0], Asm.NOP, Asm.NOP);
                due.is(what, m.run(n), n <= 2 ? n : 2 + row[1]);
                due.is(what + ": state()", m.state(), n <= 2 ? 1 : row[2]);
                due.is(what + ": register(32)", m.register(32), n <= 2 ? 4 * n : 8);
                due.is(what + ": count(4)", m.count(4), n <= 2 ? n : 2 + row[1]);
            }
        }
        RvMachine service = Asm.begun(Asm.li(Asm.A7, 9), Asm.ECALL);
        due.is("run(9) to a service that is none", service.run(9), 1);
        due.is("state()", service.state(), 14);
        RvMachine behind = Asm.begun(Asm.NOP, Asm.NOP);
        due.is("run(2) of two words", behind.run(2), 2);
        due.is("state() behind them", behind.state(), 1);
        due.is("run(1) behind them", behind.run(1), 0);
        due.is("state()", behind.state(), 13);
    }

    private static void runWithoutRun(Due due) {
        due.about("IllegalStateException if no RUN goes on");
        for (int state : Busy.STATES) {
            RvMachine m = Busy.inState(state);
            if (state == 1) {
                due.is("run(1) in state 1", m.run(1), 1);
            } else {
                due.isThrown("run(1) in state " + state, STATE, () -> m.run(1));
                due.is("state()", m.state(), state);
                m.begin(0);
                due.is("run(1) when begun again", m.run(1), 1);
            }
        }
    }

    private static void stateOfEach(Due due) {
        due.about("0 no RUN was begun, 1 it goes on, 2 it ended by a service, 10 and the TRAP if by that");
        int[][] ends = {{Asm.ECALL, 2}, {0, 11}, {Asm.lw(6, 0, 0), 12}, {Asm.jal(6, 2), 13}, {Asm.EBREAK, 15}};
        RvMachine m = new RvMachine();
        due.is("state()", m.state(), 0);
        m.word(Asm.NOP);
        due.is("state() with a word", m.state(), 0);
        m.word(Asm.NOP);
        for (int[] end : ends) {
            m.change(1, end[0]);
            m.begin(0);
            due.is("state() after begin", m.state(), 1);
            m.run(1);
            due.is("state() before the end", m.state(), 1);
            m.run(1);
            due.is("state() after " + Integer.toHexString(end[0]), m.state(), end[1]);
        }
        m.change(1, Asm.ECALL);
        m.begin(0);
        m.set(Asm.A7, 9);
        m.run(2);
        due.is("state() after a service that is none", m.state(), 14);
        m.begin(1);
        due.is("state() after begin", m.state(), 1);
    }

    private static void registerOthers(Due due) {
        due.about("REGISTER k (32: ..). IndexOutOfBoundsException for others");
        RvMachine m = Asm.begun(Asm.NOP, Asm.NOP);
        m.run(1);
        m.set(1, 101);
        m.set(31, 131);
        int[][] rows = {{0, 0}, {1, 101}, {30, 0}, {31, 131}, {32, 4}};
        for (int[] row : rows) {
            due.is("register(" + row[0] + ")", m.register(row[0]), row[1]);
        }
        for (int k : new int[] {-1, 33, MIN, MAX}) {
            due.isThrown("register(" + k + ")", INDEX, () -> m.register(k));
        }
    }

    private static void registerNext(Due due) {
        due.about("the address of the instruction that is next, or of the one with which the RUN ended");
        RvMachine m = Asm.begun(Asm.NOP, Asm.jal(0, 8), Asm.NOP, Asm.ECALL);
        int[] addresses = {0, 4, 12, 12};
        for (int i = 0; i < addresses.length; i++) {
            due.is("register(32) after " + i, m.register(32), addresses[i]);
            if (m.state() == 1) {
                m.run(1);
            }
        }
        due.is("state()", m.state(), 2);
        for (int state : new int[] {11, 12, 13, 14, 15}) {
            due.is("register(32) of state " + state, Busy.inState(state).register(32), 4 * (Busy.words() - 1));
        }
    }

    private static void setOthers(Due due) {
        due.about("REGISTER k (not 0) becomes v: what it was. IndexOutOfBoundsException if k is not 1 to 31");
        RvMachine m = Asm.begun(Asm.NOP);
        for (int k : new int[] {1, 2, 30, 31}) {
            due.is("set(" + k + ", MIN)", m.set(k, MIN), 0);
            due.is("set(" + k + ", MAX)", m.set(k, MAX), MIN);
            due.is("set(" + k + ", -1)", m.set(k, -1), MAX);
            due.is("register(" + k + ")", m.register(k), -1);
        }
        for (int k : new int[] {0, -1, 32, 33, MIN, MAX}) {
            due.isThrown("set(" + k + ", 8)", INDEX, () -> m.set(k, 8));
        }
        due.is("register(0)", m.register(0), 0);
        due.is("register(32)", m.register(32), 0);
    }

    private static void setWhetherOrNot(Due due) {
        due.about("whether a RUN goes on or not");
        for (int state : Busy.STATES) {
            RvMachine m = Busy.inState(state);
            int next = m.register(32);
            m.set(7, 1234);
            due.is("set(7, 5) in state " + state, m.set(7, 5), 1234);
            due.is("register(7)", m.register(7), 5);
            due.is("state()", m.state(), state);
            due.is("register(32)", m.register(32), next);
        }
        RvMachine m = Asm.begun(Asm.addi(6, 5, 1));
        m.set(5, 41);
        m.run(1);
        due.is("what the next instruction makes of it", m.register(6), 42);
    }

    private static void countOthers(Due due) {
        due.about("What 0: WORDS, .. 6: of the input. IllegalArgumentException for others");
        RvMachine m = Busy.inState(1);
        int[] counts = {20, 2, 20, 1, 14, 2, 3};
        for (int what = 0; what <= 6; what++) {
            due.is("count(" + what + ")", m.count(what), counts[what]);
        }
        for (int what : new int[] {-1, 7, MIN, MAX}) {
            due.isThrown("count(" + what + ")", ARGUMENT, () -> m.count(what));
        }
    }
}
