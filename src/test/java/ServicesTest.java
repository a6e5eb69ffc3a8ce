/** The services of ECALL, and trap 4. */
public final class ServicesTest {
    private static final int TRAP_2 = -1002;
    private static final int TRAP_4 = -1004;

    public static void main(String[] args) {
        Due due = new Due("ServicesTest");
        lookAtEnd(due);
        lookAtMaking(due);
        lookAtSizesRefused(due);
        lookAtMostBytes(due);
        lookAtMostMade(due);
        lookAtDroppingLast(due);
        lookAtDroppingLastRefused(due);
        lookAtDroppingGiven(due);
        lookAtDroppingGivenRefused(due);
        lookAtComparing(due);
        lookAtCopying(due);
        lookAtCopyingRefused(due);
        lookAtOthers(due);
        due.end();
    }

    private static void lookAtEnd(Due due) {
        RvMachine m = Asm.begun(Asm.li(Asm.A0, 5), Asm.ECALL, Asm.NOP);
        due.is("run(9)", m.run(9), 2);
        due.is("state()", m.state(), 2);
        due.is("register(10)", m.register(Asm.A0), 5);
        due.is("register(32)", m.register(32), 4);
        due.is("count(4)", m.count(4), 2);
    }

    private static void lookAtMaking(Due due) {
        RvMachine m = Asm.forServices();
        due.is("a last one", Asm.call(m, 1, 4000), 0x10000);
        due.is("a given one", Asm.call(m, 3, 4000), 0x20000);
        due.is("a last one of 0 bytes", Asm.call(m, 1, 0), 0x30000);
        due.is("a given one of 0 bytes", Asm.call(m, 3, 0), 0x40000);
        due.is("count(2)", m.count(2), 8000);
        due.is("count(3)", m.count(3), 2);
        Asm.call(m, 2, 2);
        Asm.call(m, 4, 0x20000);
        due.is("numbers are not used again", Asm.call(m, 1, 1), 0x50000);
        due.is("register 17 stays", m.register(Asm.A7), 1);
        due.is("count(1)", m.count(1), 5);
        due.is("count(2)", m.count(2), 4);
    }

    private static void lookAtSizesRefused(Due due) {
        for (int size : new int[] {-1, 4001, 65536, Integer.MIN_VALUE, Integer.MAX_VALUE, -4}) {
            RvMachine m = Asm.forServices();
            due.is("a given one of " + size, Asm.call(m, 3, size), 0);
            due.is("count(1)", m.count(1), 0);
            due.is("state()", m.state(), 1);
            due.is("a last one of " + size, Asm.call(m, 1, size), TRAP_4);
            due.is("register 10 stays", m.register(Asm.A0), size);
            due.is("register(32)", m.register(32), 0);
            due.is("count(1)", m.count(1), 0);
        }
    }

    private static void lookAtMostBytes(Due due) {
        RvMachine m = Asm.forServices();
        for (int k = 1; k <= 10; k++) {
            due.is("object " + k, Asm.call(m, 1 + k % 2 * 2, k == 10 ? 3993 : 4000), k << 16);
        }
        due.is("count(2)", m.count(2), 39996);
        due.is("5 bytes more", Asm.call(m, 3, 5), 0);
        due.is("3 bytes more", Asm.call(m, 3, 3), 11 << 16);
        due.is("count(2)", m.count(2), 40000);
        due.is("a byte more", Asm.call(m, 3, 1), 0);
        due.is("no byte more", Asm.call(m, 3, 0), 12 << 16);
        due.is("no byte more, a last one", Asm.call(m, 1, 0), 13 << 16);
        due.is("dropping", Asm.call(m, 4, 1 << 16), 1 << 16);
        due.is("4000 bytes again", Asm.call(m, 1, 4000), 14 << 16);
        due.is("a byte more, a last one", Asm.call(m, 1, 1), TRAP_4);
        due.is("count(1)", m.count(1), 14);
        due.is("count(2)", m.count(2), 40000);
    }

    private static void lookAtMostMade(Due due) {
        RvMachine m = Asm.begun(Asm.li(Asm.A0, 4), Asm.ECALL, Asm.jal(0, -8));
        m.set(Asm.A7, 3);
        for (int i = 0; i < 4; i++) {
            m.run(3 * 2000);
        }
        due.is("count(1)", m.count(1), 8000);
        due.is("count(2)", m.count(2), 32000);
        due.is("the last address", m.register(Asm.A0), 8000 << 16);
        m.run(3);
        due.is("a given one more", m.register(Asm.A0), 0);
        m.set(Asm.A7, 4);
        m.change(0, Asm.lui(Asm.A0, 0x10));
        m.run(3);
        due.is("count(2) after dropping one", m.count(2), 31996);
        m.set(Asm.A7, 3);
        m.run(3);
        due.is("none though one is gone", m.register(Asm.A0), 0);
        m.change(0, Asm.li(Asm.A0, 0));
        m.set(Asm.A7, 1);
        due.is("a last one more", m.run(3), 1);
        due.is("state()", m.state(), 14);
        due.is("count(1)", m.count(1), 8000);
        due.is("peek of the last one made", m.peek((8000 << 16) + 3), 0);
        m.begin(0);
        m.set(Asm.A7, 1);
        m.run(2);
        due.is("numbers of a new run", m.register(Asm.A0), 0x10000);
    }

    private static void lookAtDroppingLast(Due due) {
        RvMachine m = Asm.forServices();
        Asm.call(m, 1, 4);
        Asm.call(m, 3, 8);
        Asm.call(m, 1, 12);
        Asm.call(m, 3, 16);
        Asm.call(m, 1, 20);
        due.is("none of them goes", Asm.call(m, 2, 0), 0);
        due.is("count(3)", m.count(3), 3);
        due.is("two go", Asm.call(m, 2, 2), 2);
        due.is("count(3)", m.count(3), 1);
        due.is("count(2)", m.count(2), 28);
        lookWhichAreThere(due, m, true, true, false, true, false);
        Asm.call(m, 1, 0);
        due.is("two go again", Asm.call(m, 2, 2), 2);
        lookWhichAreThere(due, m, false, true, false, true, false, false);
        due.is("count(2)", m.count(2), 24);
        due.is("count(3)", m.count(3), 0);
        due.is("none of none goes", Asm.call(m, 2, 0), 0);
    }

    private static void lookWhichAreThere(Due due, RvMachine m, boolean... there) {
        for (int k = 1; k <= there.length; k++) {
            due.is("peek of object " + k, m.peek(k << 16), there[k - 1] ? 0 : -1);
        }
    }

    private static void lookAtDroppingLastRefused(Due due) {
        for (int n : new int[] {3, 4, -1, Integer.MIN_VALUE, Integer.MAX_VALUE}) {
            RvMachine m = Asm.forServices();
            Asm.call(m, 1, 4);
            Asm.call(m, 3, 4);
            Asm.call(m, 1, 4);
            due.is("dropping " + n, Asm.call(m, 2, n), TRAP_4);
            due.is("count(3)", m.count(3), 2);
            due.is("count(2)", m.count(2), 12);
            lookWhichAreThere(due, m, true, true, true);
        }
    }

    private static void lookAtDroppingGiven(Due due) {
        RvMachine m = Asm.forServices();
        Asm.call(m, 3, 4);
        Asm.call(m, 3, 5);
        Asm.call(m, 1, 4);
        Asm.call(m, 3, 0);
        due.is("nothing goes", Asm.call(m, 4, 0), 0);
        due.is("the first goes", Asm.call(m, 4, 0x10000), 0x10000);
        lookWhichAreThere(due, m, false, true, true);
        due.is("count(2)", m.count(2), 12);
        due.is("the empty one goes", Asm.call(m, 4, 0x40000), 0x40000);
        due.is("the second goes", Asm.call(m, 4, 0x20000), 0x20000);
        lookWhichAreThere(due, m, false, false, true);
        due.is("count(2)", m.count(2), 4);
        due.is("count(3)", m.count(3), 1);
        due.is("it is gone", Asm.call(m, 4, 0x20000), TRAP_4);
    }

    private static void lookAtDroppingGivenRefused(Due due) {
        int[] addresses = {0x10001, 0x10004, 0x1ffff, 0x20000, 0x30000, 0x50000, 1, 65535, -65536, -1,
            Integer.MIN_VALUE, Integer.MAX_VALUE, 8001 << 16};
        for (int address : addresses) {
            RvMachine m = Asm.forServices();
            Asm.call(m, 3, 8);
            Asm.call(m, 1, 8);
            Asm.call(m, 3, 0);
            Asm.call(m, 4, 0x30000);
            Asm.call(m, 1, 8);
            due.is("dropping " + address, Asm.call(m, 4, address), TRAP_4);
            due.is("state()", m.state(), 14);
            due.is("count(2)", m.count(2), 24);
            due.is("count(3)", m.count(3), 2);
        }
    }

    private static void lookAtComparing(Due due) {
        int[][] same = {{0, 0}, {0, 65535}, {0x12345678, 0x12340000}, {-1, 0xffff0000}, {0x80000000, 0x8000ffff}};
        for (int[] pair : same) {
            RvMachine m = Asm.forServices();
            due.is("same " + pair[0], Asm.call(m, 7, pair[0], pair[1], 0), pair[0]);
            due.is("register 11 stays", m.register(Asm.A1), pair[1]);
        }
        int[][] other = {{0, 65536}, {65535, 65536}, {-1, 0x7fffffff}, {0x10000, 0x20000}, {-65536, -65537}};
        for (int[] pair : other) {
            RvMachine m = Asm.forServices();
            due.is("not same " + pair[0], Asm.call(m, 7, pair[0], pair[1], 0), TRAP_4);
        }
    }

    /** A machine with two objects of 8 bytes, the first 11, 12, .. 18, the second 0. */
    private static RvMachine forCopies() {
        RvMachine m = Asm.begun(Asm.ECALL, Asm.jal(0, -4), Asm.sb(6, 0, 5), Asm.jal(0, -12));
        Asm.call(m, 3, 8);
        Asm.call(m, 1, 8);
        m.change(1, Asm.jal(0, 4));
        m.set(Asm.A7, 7);
        m.set(Asm.A0, 0);
        for (int i = 0; i < 8; i++) {
            m.set(5, 0x10000 + i);
            m.set(6, 11 + i);
            m.run(4);
        }
        m.change(1, Asm.jal(0, -4));
        return m;
    }

    private static void look(Due due, RvMachine m, String what, int from, int... bytes) {
        for (int i = 0; i < bytes.length; i++) {
            due.is(what + ": byte " + i, m.peek(from + i), bytes[i]);
        }
    }

    private static void lookAtCopying(Due due) {
        RvMachine m = forCopies();
        due.is("copying 3", Asm.call(m, 8, 0x20002, 0x10001, 3), 0x20002);
        look(due, m, "copying 3", 0x20000, 0, 0, 12, 13, 14, 0, 0, 0);
        look(due, m, "copying 3", 0x10000, 11, 12, 13, 14, 15, 16, 17, 18);
        due.is("register 11 stays", m.register(Asm.A1), 0x10001);
        due.is("register 12 stays", m.register(Asm.A2), 3);
        Asm.call(m, 8, 0x20000, 0x10000, 8);
        look(due, m, "copying all", 0x20000, 11, 12, 13, 14, 15, 16, 17, 18);
        Asm.call(m, 8, 0x10002, 0x10000, 5);
        look(due, m, "copying up", 0x10000, 11, 12, 11, 12, 13, 14, 15, 18);
        Asm.call(m, 8, 0x20000, 0x20001, 7);
        look(due, m, "copying down", 0x20000, 12, 13, 14, 15, 16, 17, 18, 18);
        Asm.call(m, 8, 0x10000, 0x10000, 8);
        look(due, m, "copying onto itself", 0x10000, 11, 12, 11, 12, 13, 14, 15, 18);
        Asm.call(m, 3, 4000);
        Asm.call(m, 3, 4000);
        due.is("copying 4000", Asm.call(m, 8, 0x40000, 0x30000, 4000), 0x40000);
        due.is("state()", m.state(), 1);
    }

    private static void lookAtCopyingRefused(Due due) {
        RvMachine none = Asm.forServices();
        due.is("copying 0 from nowhere to nowhere", Asm.call(none, 8, -1, 7, 0), -1);
        for (int n : new int[] {-1, 4001, Integer.MIN_VALUE, Integer.MAX_VALUE}) {
            due.is("copying " + n, Asm.call(forCopies(), 8, 0x20000, 0x10000, n), TRAP_4);
            due.is("copying " + n + " from nowhere", Asm.call(forCopies(), 8, 0x20000, 0, n), TRAP_4);
        }
        int[][] refused = {
            {0x20000, 0x10000, 9}, {0x20001, 0x10000, 8}, {0x20000, 0x10001, 8}, {0x20008, 0x10000, 1},
            {0x20000, 0x10008, 1}, {0x20000, 0x30000, 1}, {0x30000, 0x10000, 1}, {0, 0x10000, 1},
            {0x20000, 0, 1}, {0x20000, 65535, 2}, {65535, 0x10000, 2}, {0x20000, -1, 1}, {0x20000, 0x10000, 4000},
        };
        for (int[] row : refused) {
            RvMachine m = forCopies();
            String what = row[2] + " bytes from " + row[1] + " to " + row[0];
            due.is(what, Asm.call(m, 8, row[0], row[1], row[2]), TRAP_2);
            due.is(what + ": state()", m.state(), 12);
            look(due, m, what, 0x10000, 11, 12, 13, 14, 15, 16, 17, 18);
            look(due, m, what, 0x20000, 0, 0, 0, 0, 0, 0, 0, 0);
        }
    }

    private static void lookAtOthers(Due due) {
        for (int service : new int[] {9, 10, 93, -1, 0x100, Integer.MIN_VALUE, Integer.MAX_VALUE}) {
            RvMachine m = Asm.forServices();
            due.is("service " + service, Asm.call(m, service, 1), TRAP_4);
            due.is("state()", m.state(), 14);
            due.is("count(4)", m.count(4), 0);
        }
    }
}
