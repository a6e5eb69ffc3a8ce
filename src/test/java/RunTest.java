/** Promises 4, 5 and 6: begin, run and state. */
public final class RunTest {
    public static void main(String[] args) {
        Due due = new Due("RunTest");
        lookAtBegin(due);
        lookAtBeginRefused(due);
        lookAtRun(due);
        lookAtRunRefused(due);
        lookAtEnds(due);
        lookAtLongRuns(due);
        due.end();
    }

    private static void lookAtBegin(Due due) {
        RvMachine m = Asm.forServices();
        m.input(0x1122, 2);
        int last = Asm.call(m, 1, 8);
        Asm.call(m, 3, 12);
        Asm.call(m, 5, 65);
        due.is("count(1)", m.count(1), 2);
        due.is("count(2)", m.count(2), 20);
        m.begin(1);
        due.is("state()", m.state(), 1);
        for (int k = 0; k < 32; k++) {
            due.is("register(" + k + ")", m.register(k), 0);
        }
        due.is("register(32)", m.register(32), 4);
        int[] counts = {2, 0, 0, 0, 0, 0, 2};
        for (int what = 0; what <= 6; what++) {
            due.is("count(" + what + ")", m.count(what), counts[what]);
        }
        due.is("take()", m.take(), 0);
        due.is("peek of an object of the run before", m.peek(last), -1);
        m.run(1);
        due.is("the first object of a run", Asm.call(m, 3, 4), 65536);
        due.is("the input goes on", Asm.call(m, 6, 0), 0x11);
        m.begin(0);
        due.is("and is not read again", Asm.call(m, 6, 0), 0x22);
        due.is("peek of the object of the run before", m.peek(65536), -1);
    }

    private static void lookAtBeginRefused(Due due) {
        RvMachine m = Asm.begun(Asm.li(5, 7), Asm.li(6, 8), Asm.EBREAK);
        m.run(1);
        for (int k : new int[] {3, 4, 4000, -1, Integer.MIN_VALUE, Integer.MAX_VALUE, 0x40000000}) {
            due.isThrown("begin(" + k + ")", IndexOutOfBoundsException.class, () -> m.begin(k));
        }
        due.is("state()", m.state(), 1);
        due.is("register(5)", m.register(5), 7);
        due.is("register(32)", m.register(32), 4);
        due.is("count(4)", m.count(4), 1);
        m.begin(2);
        due.is("register(5) after begin(2)", m.register(5), 0);
        due.is("run(1)", m.run(1), 0);
        due.is("state()", m.state(), 15);
        m.begin(0);
        due.is("state() after a run that ended", m.state(), 1);
        due.is("run(9)", m.run(9), 2);
    }

    private static void lookAtRun(Due due) {
        RvMachine m = Asm.begun(Asm.addi(5, 5, 1), Asm.jal(0, -4));
        due.is("run(1)", m.run(1), 1);
        due.is("register(32)", m.register(32), 4);
        due.is("run(3)", m.run(3), 3);
        due.is("register(5)", m.register(5), 2);
        due.is("run(10000)", m.run(10000), 10000);
        due.is("register(5)", m.register(5), 5002);
        due.is("count(4)", m.count(4), 10004);
        due.is("state()", m.state(), 1);
        m.begin(0);
        due.is("count(4) of a new run", m.count(4), 0);
    }

    private static void lookAtRunRefused(Due due) {
        RvMachine m = Asm.begun(Asm.NOP, Asm.EBREAK);
        for (int n : new int[] {0, -1, 10001, Integer.MIN_VALUE, Integer.MAX_VALUE}) {
            due.isThrown("run(" + n + ")", IllegalArgumentException.class, () -> m.run(n));
        }
        due.is("register(32)", m.register(32), 0);
        due.is("count(4)", m.count(4), 0);
        due.is("run(10000)", m.run(10000), 1);
        due.isThrown("run(1) after the end", IllegalStateException.class, () -> m.run(1));
        due.isThrown("run(0) after the end", IllegalArgumentException.class, () -> m.run(0));
        due.isThrown("run(10001) after the end", IllegalArgumentException.class, () -> m.run(10001));
        due.is("state()", m.state(), 15);
        due.is("count(4)", m.count(4), 1);
        RvMachine none = new RvMachine();
        due.isThrown("run(1) before a begin", IllegalStateException.class, () -> none.run(1));
        due.isThrown("run(0) before a begin", IllegalArgumentException.class, () -> none.run(0));
    }

    // The word with which the run ends, whether it counts, and the state that is due.
    private static void lookAtEnds(Due due) {
        lookAtEnd(due, "ECALL 0", Asm.ECALL, 1, 2);
        lookAtEnd(due, "no instruction", 0, 0, 11);
        lookAtEnd(due, "no memory", Asm.lw(6, 0, 0), 0, 12);
        lookAtEnd(due, "no address", Asm.jal(1, 6), 0, 13);
        lookAtEnd(due, "EBREAK", Asm.EBREAK, 0, 15);
        RvMachine m = Asm.begun(Asm.NOP, Asm.li(Asm.A7, 99), Asm.ECALL);
        due.is("run(9) to a service that is none", m.run(9), 2);
        due.is("state()", m.state(), 14);
        due.is("register(32)", m.register(32), 8);
    }

    private static void lookAtEnd(Due due, String what, int word, int counts, int state) {
        RvMachine m = Asm.begun(Asm.NOP, Asm.NOP, word, Asm.NOP);
        due.is(what + ": run(2)", m.run(2), 2);
        due.is(what + ": state() before it", m.state(), 1);
        due.is(what + ": run(10)", m.run(10), counts);
        due.is(what + ": state()", m.state(), state);
        due.is(what + ": register(32)", m.register(32), 8);
        due.is(what + ": register(1)", m.register(1), 0);
        due.is(what + ": count(4)", m.count(4), 2 + counts);
        due.isThrown(what + ": run(1)", IllegalStateException.class, () -> m.run(1));
    }

    private static void lookAtLongRuns(Due due) {
        RvMachine m = Asm.begun(Asm.addi(5, 5, 1), Asm.jal(0, -4));
        int done = 0;
        for (int i = 0; i < 500; i++) {
            done += m.run(10000);
        }
        due.is("500 runs of 10000", done, 5000000);
        due.is("count(4)", m.count(4), 5000000);
        due.is("register(5)", m.register(5), 2500000);
    }
}
