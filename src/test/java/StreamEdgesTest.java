/** The edges of the input and of what is written: promises 10 and 11, services 5 and 6. */
public final class StreamEdgesTest {
    private static final int MIN = Integer.MIN_VALUE;
    private static final int MAX = Integer.MAX_VALUE;
    private static final Class<IllegalArgumentException> ARGUMENT = IllegalArgumentException.class;
    private static final Class<IllegalStateException> STATE = IllegalStateException.class;

    public static void main(String[] args) {
        Due due = new Due("StreamEdgesTest");
        inputBytes(due);
        inputLowestLast(due);
        inputFull(due);
        inputRoomAgain(due);
        readBehind(due);
        takeEight(due);
        takeWithout(due);
        writtenLowByte(due);
        writtenFull(due);
        writtenRoomAgain(due);
        due.end();
    }

    private static void inputBytes(Due due) {
        due.about("n bytes (0 to 8) of w: how many are not read. IllegalArgumentException for another n");
        RvMachine m = new RvMachine();
        int there = 0;
        for (int n = 0; n <= 8; n++) {
            there += n;
            due.is("input(-1, " + n + ")", m.input(-1, n), there);
            due.is("count(6)", m.count(6), there);
        }
        for (int n : new int[] {-1, 9, MIN, MAX}) {
            due.isThrown("input(-1, " + n + ")", ARGUMENT, () -> m.input(-1, n));
            due.is("count(6)", m.count(6), there);
        }
    }

    private static void inputLowestLast(Due due) {
        due.about("n bytes (0 to 8) of w, the lowest last, come to the input");
        long w = 0x8091a2b3c4d5e6f7L;
        for (int n = 0; n <= 8; n++) {
            RvMachine m = Asm.forServices();
            m.input(w, n);
            for (int i = n - 1; i >= 0; i--) {
                due.is("byte " + i + " of " + n, Asm.call(m, 6, 0), (int) (w >>> 8 * i) & 255);
            }
            due.is("nothing behind " + n, Asm.call(m, 6, 0), -1);
        }
    }

    /** A machine with so many bytes of input, that reads one and writes it in each five instructions. */
    private static RvMachine withInput(int bytes) {
        RvMachine m = Asm.begun(Asm.li(Asm.A7, 6), Asm.ECALL, Asm.li(Asm.A7, 5), Asm.ECALL, Asm.jal(0, -16));
        for (int i = 0; i < bytes; i += 8) {
            int n = Math.min(8, bytes - i);
            m.input(upFrom(i, n), n);
        }
        return m;
    }

    private static long upFrom(int from, int n) {
        long w = 0;
        for (int i = 0; i < n; i++) {
            w = w << 8 | from + i & 255;
        }
        return w;
    }

    private static void inputFull(Due due) {
        due.about("IllegalStateException if there would be more than 1000");
        for (int there = 991; there <= 1000; there++) {
            for (int n = 0; n <= 8; n++) {
                RvMachine m = withInput(there);
                int bytes = n;
                String what = "input(.., " + n + ") with " + there;
                if (there + n <= 1000) {
                    due.is(what, m.input(upFrom(there, n), n), there + n);
                    lookAtInput(due, what, m, there + n);
                } else {
                    due.isThrown(what, STATE, () -> m.input(-1, bytes));
                    lookAtInput(due, what, m, there);
                }
            }
        }
    }

    private static void lookAtInput(Due due, String what, RvMachine m, int bytes) {
        due.is(what + ": count(6)", m.count(6), bytes);
        m.run(5 * bytes);
        for (int i = 0; i < bytes; i += 8) {
            due.is(what + ": bytes from " + i, m.take(), upFrom(i, Math.min(8, bytes - i)));
        }
        due.is(what + ": count(6) of what was read", m.count(6), 0);
    }

    private static void inputRoomAgain(Due due) {
        due.about("how many are not read");
        RvMachine m = withInput(1000);
        due.isThrown("input(0, 1) when full", STATE, () -> m.input(0, 1));
        m.run(5);
        due.is("count(6) when one was read", m.count(6), 999);
        due.isThrown("input(0, 2)", STATE, () -> m.input(0, 2));
        due.is("input(.., 1)", m.input(upFrom(1000, 1), 1), 1000);
        due.isThrown("input(0, 1) when full again", STATE, () -> m.input(0, 1));
        m.run(5 * 7);
        due.is("take()", m.take(), upFrom(0, 8));
        due.is("input(.., 7)", m.input(upFrom(1001, 7), 7), 1000);
        m.run(5 * 1000);
        for (int i = 8; i < 1008; i += 8) {
            due.is("bytes from " + i, m.take(), upFrom(i, 8));
        }
        due.is("input(.., 0) when all are read", m.input(-1, 0), 0);
    }

    private static void readBehind(Due due) {
        due.about("6 a10 becomes the next byte of the input, -1 behind it");
        RvMachine m = Asm.forServices();
        due.is("without input", Asm.call(m, 6, 7), -1);
        m.input(0x00ff, 2);
        due.is("a byte 0", Asm.call(m, 6, 7), 0);
        due.is("the last byte, 255", Asm.call(m, 6, 7), 255);
        due.is("behind it", Asm.call(m, 6, 7), -1);
        due.is("behind it again", Asm.call(m, 6, 7), -1);
        due.is("count(6)", m.count(6), 0);
        due.is("state()", m.state(), 1);
        m.input(0x80, 1);
        due.is("a byte that came later", Asm.call(m, 6, 7), 128);
        due.is("behind that", Asm.call(m, 6, 7), -1);
    }

    /** A machine that writes 1, 2, 3, .., one byte in each three instructions. */
    private static RvMachine counter() {
        RvMachine m = Asm.begun(Asm.addi(Asm.A0, Asm.A0, 1), Asm.ECALL, Asm.jal(0, -8));
        m.set(Asm.A7, 5);
        return m;
    }

    private static void takeEight(Due due) {
        due.about("The next eight bytes (fewer, as a number of so many bytes, if there are fewer), the first highest");
        for (int n = 0; n <= 17; n++) {
            RvMachine m = counter();
            m.set(Asm.A0, 0x7f);
            if (n > 0) {
                m.run(3 * n);
            }
            int left = n;
            for (int i = 0; i < 4; i++) {
                int bytes = Math.min(8, left);
                due.is("count(5) of " + n, m.count(5), left);
                due.is("take " + i + " of " + n, m.take(), upFrom(0x80 + n - left, bytes));
                left -= bytes;
            }
        }
        RvMachine zeros = counter();
        zeros.set(Asm.A0, -4);
        zeros.run(3 * 6);
        due.is("take() of -3 to 2", zeros.take(), 0xfdfeff000102L);
        RvMachine leading = counter();
        leading.set(Asm.A0, -1);
        leading.run(3 * 2);
        due.is("count(5) of 0 and 1", leading.count(5), 2);
        due.is("take() of 0 and 1", leading.take(), 1);
        due.is("count(5) then", leading.count(5), 0);
    }

    private static void takeWithout(Due due) {
        due.about("0 without");
        RvMachine m = new RvMachine();
        due.is("take() of a new object", m.take(), 0);
        RvMachine written = counter();
        due.is("take() before a byte", written.take(), 0);
        written.run(2);
        due.is("take()", written.take(), 1);
        due.is("take() when it is taken", written.take(), 0);
        due.is("count(5)", written.count(5), 0);
        written.run(3);
        due.is("take() of the next", written.take(), 2);
    }

    private static void writtenLowByte(Due due) {
        due.about("5 the low byte of a10 is written");
        RvMachine m = Asm.forServices();
        for (int a0 : new int[] {0, 1, 127, 128, 255, 256, 257, -1, -256, MIN, MAX}) {
            due.is("a10 stays", Asm.call(m, 5, a0), a0);
            due.is("count(5)", m.count(5), 1);
            due.is("take() of " + a0, m.take(), a0 & 255);
        }
    }

    private static void writtenFull(Due due) {
        due.about("of what is written 4096 bytes are kept that are not taken; more are lost");
        for (int n : new int[] {4094, 4095, 4096, 4097, 4098, 4104}) {
            RvMachine m = counter();
            m.run(3 * 3000);
            m.run(3 * (n - 3000));
            due.is("count(5) of " + n, m.count(5), Math.min(4096, n));
            due.is("count(4) of " + n, m.count(4), 3 * n);
            due.is("state() of " + n, m.state(), 1);
            due.is("a10 of " + n, m.register(Asm.A0), n);
            // To the last byte, which takes a few calls more than are promised to an object.
            for (int i = 0; i < 4096; i += 8) {
                due.is("bytes of " + n + " from " + i, m.take(), upFrom(1 + i, Math.min(8, Math.min(4096, n) - i)));
            }
            due.is("count(5) of what was taken", m.count(5), 0);
            due.is("take() behind them", m.take(), 0);
        }
    }

    private static void writtenRoomAgain(Due due) {
        due.about("4096 bytes are kept that are not taken");
        RvMachine m = counter();
        m.run(3 * 3333);
        m.run(3 * 863);
        due.is("count(5) when 100 are lost", m.count(5), 4096);
        due.is("take()", m.take(), upFrom(1, 8));
        due.is("count(5)", m.count(5), 4088);
        m.run(3 * 7);
        due.is("count(5) with 7 more", m.count(5), 4095);
        m.run(3);
        due.is("count(5) with 8 more", m.count(5), 4096);
        m.run(3);
        due.is("count(5) with one that is lost", m.count(5), 4096);
        for (int i = 9; i < 4097; i += 8) {
            due.is("bytes from " + i, m.take(), upFrom(i, 8));
        }
        due.is("the 8 that came when there was room", m.take(), upFrom(4197, 8));
        due.is("count(5)", m.count(5), 0);
    }
}
