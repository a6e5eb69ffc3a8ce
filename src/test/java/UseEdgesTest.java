/** "An object is used for at most 512 calls after it has been made": all of them answer as they should. */
public final class UseEdgesTest {
    private static final int CALLS = 512;

    public static void main(String[] args) {
        Due due = new Due("UseEdgesTest");
        due.about("An object is used for at most 512 calls after it has been made");
        wordsOnly(due);
        lastWordIsDone(due);
        runsOnly(due);
        writtenAndTaken(due);
        objectsOfManyRuns(due);
        refusedOnly(due);
        due.end();
    }

    private static void wordsOnly(Due due) {
        RvMachine m = new RvMachine();
        for (int i = 1; i <= CALLS; i++) {
            due.is("word " + i, m.word(-i), i);
        }
    }

    private static void lastWordIsDone(Due due) {
        RvMachine m = new RvMachine();
        for (int i = 1; i <= CALLS - 3; i++) {
            m.word(Asm.addi(5, 5, 1));
        }
        m.begin(0);
        due.is("run(10000)", m.run(10000), CALLS - 3);
        due.is("the last call", m.register(5), CALLS - 3);
    }

    private static void runsOnly(Due due) {
        RvMachine m = Asm.begun(Asm.addi(5, 5, 1), Asm.jal(0, -4));
        for (int i = 4; i < CALLS; i++) {
            due.is("call " + i, m.run(10000), 10000);
        }
        due.is("the last call", m.count(4), 10000 * (CALLS - 4));
    }

    // As many bytes as the calls allow: the ring of what is written goes round with them.
    private static void writtenAndTaken(Due due) {
        RvMachine m = Asm.begun(Asm.ECALL, Asm.addi(Asm.A0, Asm.A0, 1), Asm.jal(0, -8));
        m.set(Asm.A7, 5);
        int next = 0;
        for (int i = 6; i < CALLS; i++) {
            if (i == 6 || i == 250) {
                m.run(3 * 2000);
            } else {
                long want = 0;
                for (int k = 0; k < 8; k++) {
                    want = want << 8 | next + k & 255;
                }
                boolean gone = next >= 2000 && i < 250 || next >= 4000;
                due.is("call " + i, m.take(), gone ? 0 : want);
                next += gone ? 0 : 8;
            }
        }
        due.is("the last call", m.count(5), 4000 - next);
    }

    private static void objectsOfManyRuns(Due due) {
        RvMachine m = Asm.begun(Asm.li(Asm.A0, 0), Asm.ECALL, Asm.jal(0, -8));
        for (int i = 0; i < (CALLS - 5) / 5; i++) {
            m.begin(0);
            m.set(Asm.A7, i % 2 == 0 ? 1 : 3);
            due.is("run " + i, m.run(9000), 9000);
            due.is("count(1)", m.count(1), 3000);
            due.is("count(3)", m.count(3), i % 2 == 0 ? 3000 : 0);
        }
    }

    private static void refusedOnly(Due due) {
        RvMachine m = new RvMachine();
        for (int i = 1; i < CALLS; i++) {
            due.isThrown("call " + i, IllegalStateException.class, () -> m.run(1));
        }
        due.is("the last call", m.state(), 0);
    }
}
