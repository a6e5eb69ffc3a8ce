/** Promises 7 and 8: register and set. */
public final class RegistersTest {
    public static void main(String[] args) {
        Due due = new Due("RegistersTest");
        lookAtSet(due);
        lookAtRefused(due);
        lookAtEveryRegister(due);
        lookAtZero(due);
        due.end();
    }

    private static void lookAtSet(Due due) {
        RvMachine m = new RvMachine();
        for (int k = 1; k < 32; k++) {
            due.is("set(" + k + ") before a run", m.set(k, -k), 0);
        }
        for (int k = 1; k < 32; k++) {
            due.is("set(" + k + ") again", m.set(k, 1000 * k), -k);
            due.is("register(" + k + ")", m.register(k), 1000 * k);
        }
        due.is("state()", m.state(), 0);
        RvMachine ended = Asm.begun(Asm.li(5, 3), Asm.EBREAK);
        due.is("set in a run", ended.set(6, 8), 0);
        ended.run(5);
        due.is("set after a run", ended.set(5, Integer.MIN_VALUE), 3);
        due.is("register(5)", ended.register(5), Integer.MIN_VALUE);
        due.is("register(6)", ended.register(6), 8);
        due.is("state()", ended.state(), 15);
        due.is("register(32)", ended.register(32), 4);
    }

    private static void lookAtRefused(Due due) {
        RvMachine m = Asm.begun(Asm.NOP);
        m.set(31, 9);
        for (int k : new int[] {0, -1, 32, 33, Integer.MIN_VALUE, Integer.MAX_VALUE}) {
            due.isThrown("set(" + k + ", 5)", IndexOutOfBoundsException.class, () -> m.set(k, 5));
        }
        for (int k : new int[] {-1, 33, 64, Integer.MIN_VALUE, Integer.MAX_VALUE}) {
            due.isThrown("register(" + k + ")", IndexOutOfBoundsException.class, () -> m.register(k));
        }
        due.is("register(0)", m.register(0), 0);
        due.is("register(31)", m.register(31), 9);
        due.is("register(32)", m.register(32), 0);
    }

    // Every register as a source and as a target.
    private static void lookAtEveryRegister(Due due) {
        for (int k = 1; k < 32; k++) {
            int other = k == 31 ? 1 : k + 1;
            RvMachine m = Asm.begun(Asm.addi(k, k, 5), Asm.add(other, k, k), Asm.addi(k, other, -1));
            m.set(k, 100);
            m.run(3);
            due.is("x" + other, m.register(other), 210);
            due.is("x" + k, m.register(k), 209);
        }
    }

    private static void lookAtZero(Due due) {
        RvMachine m = Asm.begun(Asm.li(0, 5), Asm.lui(0, 7), Asm.auipc(0, 7), Asm.jal(0, 4),
            Asm.add(0, 5, 5), Asm.jalr(0, 5, 1), Asm.add(6, 0, 0), Asm.r(1, 4, 0, 5, 5));
        m.set(5, 23);
        m.set(6, 1);
        due.is("run(8)", m.run(8), 8);
        due.is("register(0)", m.register(0), 0);
        due.is("register(6)", m.register(6), 0);
        due.is("register(32)", m.register(32), 32);
    }
}
