/** Promises 10 and 11 with services 5 and 6: input and take. */
public final class StreamsTest {
    public static void main(String[] args) {
        Due due = new Due("StreamsTest");
        lookAtInput(due);
        lookAtInputRefused(due);
        lookAtInputRing(due);
        lookAtTake(due);
        lookAtTakeOfMany(due);
        lookAtMostWritten(due);
        due.end();
    }

    private static int readByte(RvMachine m) {
        return Asm.call(m, 6, 12345);
    }

    private static void lookAtInput(Due due) {
        RvMachine m = Asm.forServices();
        due.is("a byte when there is none", readByte(m), -1);
        due.is("input(.., 0)", m.input(-1, 0), 0);
        due.is("input(.., 8)", m.input(0x8182838485868788L, 8), 8);
        due.is("input(.., 3)", m.input(0x7fffffffff000102L, 3), 11);
        due.is("input(.., 1)", m.input(-1, 1), 12);
        int[] bytes = {0x81, 0x82, 0x83, 0x84, 0x85, 0x86, 0x87, 0x88, 0, 1, 2, 255, -1, -1};
        for (int i = 0; i < bytes.length; i++) {
            due.is("count(6)", m.count(6), Math.max(0, 12 - i));
            due.is("byte " + i, readByte(m), bytes[i]);
        }
        due.is("input behind the end", m.input(0x0a0b, 2), 2);
        due.is("its first byte", readByte(m), 10);
        due.is("input(.., 0) tells what is not read", m.input(5, 0), 1);
        due.is("state()", m.state(), 1);
    }

    private static void lookAtInputRefused(Due due) {
        RvMachine m = new RvMachine();
        for (int n : new int[] {-1, 9, Integer.MIN_VALUE, Integer.MAX_VALUE}) {
            due.isThrown("input(1, " + n + ")", IllegalArgumentException.class, () -> m.input(1, n));
        }
        due.is("count(6)", m.count(6), 0);
        for (int i = 1; i <= 124; i++) {
            due.is("input " + i, m.input(i, 8), 8 * i);
        }
        due.is("input(1, 7)", m.input(1, 7), 999);
        due.isThrown("input(1, 2)", IllegalStateException.class, () -> m.input(1, 2));
        due.isThrown("input(1, 8)", IllegalStateException.class, () -> m.input(1, 8));
        due.is("count(6)", m.count(6), 999);
        due.is("input(1, 1)", m.input(1, 1), 1000);
        due.is("input(1, 0)", m.input(1, 0), 1000);
        due.isThrown("input(1, 1)", IllegalStateException.class, () -> m.input(1, 1));
        due.isThrown("input(1, 9) when full", IllegalArgumentException.class, () -> m.input(1, 9));
        due.is("count(6)", m.count(6), 1000);
    }

    // What was read makes room again, however often.
    private static void lookAtInputRing(Due due) {
        RvMachine m = Asm.begun(Asm.li(Asm.A7, 6), Asm.ECALL, Asm.li(Asm.A7, 5), Asm.ECALL, Asm.jal(0, -16));
        int put = 0;
        for (int i = 0; i < 125; i++) {
            m.input(eight(put), 8);
            put += 8;
        }
        due.isThrown("input when full", IllegalStateException.class, () -> m.input(0, 1));
        int got = 0;
        for (int i = 0; i < 100; i++) {
            m.run(5 * 8);
            due.is("take", m.take(), eight(got));
            got += 8;
            due.is("input", m.input(eight(put), 8), 1000);
            put += 8;
        }
    }

    private static long eight(int from) {
        long w = 0;
        for (int i = 0; i < 8; i++) {
            w = w << 8 | (from + i) * 7 & 0xff;
        }
        return w;
    }

    private static void lookAtTake(Due due) {
        RvMachine m = Asm.forServices();
        due.is("take() without", m.take(), 0);
        Asm.call(m, 5, 0xffffff41);
        due.is("register 10 stays", m.register(Asm.A0), 0xffffff41);
        due.is("take() of one", m.take(), 0x41);
        Asm.call(m, 5, 0x80);
        Asm.call(m, 5, 0x7f);
        Asm.call(m, 5, 0x1ff);
        due.is("count(5)", m.count(5), 3);
        due.is("take() of three", m.take(), 0x807fff);
        due.is("count(5)", m.count(5), 0);
        due.is("take() again", m.take(), 0);
        for (int i = 0; i < 11; i++) {
            Asm.call(m, 5, 0xf1 + i);
        }
        due.is("take() of eleven", m.take(), 0xf1f2f3f4f5f6f7f8L);
        due.is("count(5)", m.count(5), 3);
        due.is("take() of the rest", m.take(), 0xf9fafbL);
        Asm.call(m, 5, 0);
        due.is("count(5) with a zero byte", m.count(5), 1);
        due.is("take() of a zero byte", m.take(), 0);
        due.is("count(5)", m.count(5), 0);
        Asm.call(m, 5, 9);
        Asm.call(m, 0, 0);
        due.is("take() after the end", m.take(), 9);
    }

    private static void lookAtTakeOfMany(Due due) {
        RvMachine m = counter();
        int next = 0;
        for (int i = 0; i < 60; i++) {
            m.run(3 * 50);
            for (int k = 0; k < 6; k++) {
                due.is("take " + i, m.take(), upFrom(next, 8));
                next += 8;
            }
            due.is("take of two " + i, m.take(), upFrom(next, 2));
            next += 2;
        }
    }

    // Writes 0, 1, 2, .. for ever, three instructions a byte.
    private static RvMachine counter() {
        RvMachine m = Asm.begun(Asm.ECALL, Asm.addi(Asm.A0, Asm.A0, 1), Asm.jal(0, -8));
        m.set(Asm.A7, 5);
        return m;
    }

    private static long upFrom(int from, int n) {
        long w = 0;
        for (int i = 0; i < n; i++) {
            w = w << 8 | from + i & 0xff;
        }
        return w;
    }

    private static void lookAtMostWritten(Due due) {
        RvMachine m = counter();
        m.run(3 * 3000);
        due.is("count(5)", m.count(5), 3000);
        m.run(3 * 1096);
        due.is("count(5)", m.count(5), 4096);
        m.run(3 * 4);
        due.is("count(5) when more are lost", m.count(5), 4096);
        due.is("state()", m.state(), 1);
        due.is("take() of the oldest", m.take(), upFrom(0, 8));
        due.is("count(5)", m.count(5), 4088);
        m.run(3 * 20);
        due.is("count(5)", m.count(5), 4096);
        for (int i = 8; i < 3840; i += 8) {
            due.is("take " + i, m.take(), upFrom(i, 8));
        }
        due.is("count(5)", m.count(5), 256 + 8);
        m.run(3 * 2);
        m.begin(0);
        due.is("count(5) of a new run", m.count(5), 0);
        due.is("take() of a new run", m.take(), 0);
    }
}
