/** Promise 9, loads and stores, and trap 2. */
public final class MemoryTest {
    private static final int LB = 0;
    private static final int LH = 1;
    private static final int LW = 2;
    private static final int LBU = 4;
    private static final int LHU = 5;

    public static void main(String[] args) {
        Due due = new Due("MemoryTest");
        lookAtLoads(due);
        lookAtStores(due);
        lookAtPeek(due);
        lookAtEdges(due);
        lookAtOffsets(due);
        lookAtTrap(due);
        due.end();
    }

    /** A machine with one GIVEN object of so many bytes, whose ADDRESS is 65536, at a word to be changed. */
    private static RvMachine withObject(int size) {
        RvMachine m = Asm.begun(Asm.ECALL, Asm.NOP, Asm.jal(0, -4));
        m.set(Asm.A7, 3);
        m.set(Asm.A0, size);
        m.run(1);
        return m;
    }

    /** Does one word with t1 = address; whether it was done. */
    private static boolean does(RvMachine m, int word, int address) {
        m.change(1, word);
        m.set(6, address);
        return m.run(2) == 2;
    }

    private static void lookAtLoads(Due due) {
        RvMachine m = withObject(8);
        m.set(7, 0x8182f3f4);
        due.isTrue("sw", does(m, Asm.sw(7, 0, 6), 65536 + 4));
        int[][] rows = {
            {LB, 4, 0xfffffff4}, {LB, 5, 0xfffffff3}, {LB, 6, 0xffffff82}, {LB, 7, 0xffffff81}, {LB, 0, 0},
            {LBU, 4, 0xf4}, {LBU, 5, 0xf3}, {LBU, 6, 0x82}, {LBU, 7, 0x81},
            {LH, 4, 0xfffff3f4}, {LH, 6, 0xffff8182}, {LHU, 4, 0xf3f4}, {LHU, 6, 0x8182},
            {LW, 4, 0x8182f3f4}, {LW, 0, 0},
        };
        for (int[] row : rows) {
            m.set(5, 99);
            due.isTrue("load " + row[0] + " is done", does(m, Asm.load(row[0], 5, row[1], 6), 65536));
            due.is("load " + row[0] + " at " + row[1], m.register(5), row[2]);
        }
        m.set(7, 0x7f);
        does(m, Asm.sb(7, 0, 6), 65536);
        does(m, Asm.load(LB, 5, 0, 6), 65536);
        due.is("lb of 127", m.register(5), 127);
        due.isTrue("lw into zero", does(m, Asm.lw(0, 4, 6), 65536));
        due.is("register(0)", m.register(0), 0);
        due.isTrue("lw into its own base", does(m, Asm.lw(6, 4, 6), 65536));
        due.is("register(6)", m.register(6), 0x8182f3f4);
    }

    private static void lookAtStores(Due due) {
        RvMachine m = withObject(8);
        m.set(7, 0x11223344);
        does(m, Asm.sw(7, 0, 6), 65536);
        look(due, m, 0x44, 0x33, 0x22, 0x11, 0, 0, 0, 0);
        m.set(7, 0xaabbccdd);
        does(m, Asm.store(1, 7, 0, 6), 65536 + 2);
        look(due, m, 0x44, 0x33, 0xdd, 0xcc, 0, 0, 0, 0);
        does(m, Asm.sb(7, 0, 6), 65536 + 7);
        look(due, m, 0x44, 0x33, 0xdd, 0xcc, 0, 0, 0, 0xdd);
        does(m, Asm.sb(0, 0, 6), 65536 + 1);
        look(due, m, 0x44, 0, 0xdd, 0xcc, 0, 0, 0, 0xdd);
        due.is("t2 stays", m.register(7), 0xaabbccdd);
    }

    private static void look(Due due, RvMachine m, int... bytes) {
        for (int i = 0; i < bytes.length; i++) {
            due.is("peek(" + i + ")", m.peek(65536 + i), bytes[i]);
        }
        due.is("peek behind", m.peek(65536 + bytes.length), -1);
    }

    private static void lookAtPeek(Due due) {
        RvMachine m = Asm.forServices();
        Asm.call(m, 1, 3);
        Asm.call(m, 3, 0);
        Asm.call(m, 3, 4000);
        due.is("peek of 1:0", m.peek(0x10000), 0);
        due.is("peek of 1:2", m.peek(0x10002), 0);
        due.is("peek of 1:3", m.peek(0x10003), -1);
        due.is("peek of an empty object", m.peek(0x20000), -1);
        due.is("peek of 3:3999", m.peek(0x30000 + 3999), 0);
        due.is("peek of 3:4000", m.peek(0x30000 + 4000), -1);
        due.is("peek of 3:65535", m.peek(0x3ffff), -1);
        for (int address : new int[] {0, 1, 65535, 0x40000, -1, -65536, Integer.MIN_VALUE, Integer.MAX_VALUE}) {
            due.is("peek(" + address + ")", m.peek(address), -1);
        }
        Asm.call(m, 4, 0x30000);
        due.is("peek of a given one that is gone", m.peek(0x30000), -1);
        Asm.call(m, 2, 1);
        due.is("peek of a last one that is gone", m.peek(0x10000), -1);
        Asm.call(m, 3, 1);
        Asm.call(m, 0, 0);
        due.is("peek after the end", m.peek(0x40000), 0);
    }

    // What may be read may be written, and both only wholly inside and at a multiple of the size.
    private static void lookAtEdges(Due due) {
        for (int size : new int[] {0, 1, 2, 3, 4, 5, 6, 7, 8, 10, 4000}) {
            for (int place : new int[] {0, 1, 2, 3, 4, 5, 6, 7, 8, 9, 10, 3996, 3998, 3999, 4000, 65535}) {
                for (int kind = 0; kind <= 2; kind++) {
                    int bytes = 1 << kind;
                    boolean may = place % bytes == 0 && place + bytes <= size;
                    String what = bytes + " bytes at " + place + " of " + size;
                    due.is("load of " + what, does(withObject(size), Asm.load(kind, 5, 0, 6), 65536 + place) ? 1 : 0,
                        may ? 1 : 0);
                    due.is("store of " + what, does(withObject(size), Asm.store(kind, 5, 0, 6), 65536 + place) ? 1 : 0,
                        may ? 1 : 0);
                }
            }
        }
        for (int address : new int[] {0, 4, 65532, 0x20000, -4, 0x80010000, 0x7fff0000}) {
            due.isTrue("no lw at " + address, !does(withObject(8), Asm.lw(5, 0, 6), address));
            due.isTrue("no sw at " + address, !does(withObject(8), Asm.sw(5, 0, 6), address));
        }
    }

    private static void lookAtOffsets(Due due) {
        for (int offset : new int[] {-2048, -4, -1, 0, 1, 2, 4, 8, 16, 31, 32, 64, 128, 256, 512, 1024, 2047}) {
            RvMachine m = withObject(4000);
            int base = 65536 + (offset < 0 ? 2048 : 1000);
            m.set(7, 0xa5);
            due.isTrue("sb " + offset, does(m, Asm.sb(7, offset, 6), base));
            due.is("peek " + offset, m.peek(base + offset), 0xa5);
            due.isTrue("lbu " + offset, does(m, Asm.load(LBU, 5, offset, 6), base));
            due.is("lbu " + offset, m.register(5), 0xa5);
        }
        RvMachine m = withObject(4);
        due.isTrue("an address from below the object", does(m, Asm.lw(5, 4, 6), 65532));
    }

    private static void lookAtTrap(Due due) {
        RvMachine m = withObject(8);
        m.set(5, 77);
        m.set(7, -1);
        due.isTrue("no lw", !does(m, Asm.lw(5, 6, 6), 65536));
        due.is("state()", m.state(), 12);
        due.is("register(5)", m.register(5), 77);
        due.is("register(32)", m.register(32), 4);
        due.is("count(4)", m.count(4), 1);
        RvMachine s = withObject(6);
        s.set(7, -1);
        due.isTrue("no sw", !does(s, Asm.sw(7, 4, 6), 65536));
        due.is("state()", s.state(), 12);
        look(due, s, 0, 0, 0, 0, 0, 0);
        RvMachine zero = withObject(8);
        due.isTrue("no lw into zero", !does(zero, Asm.lw(0, 8, 6), 65536));
        due.is("state()", zero.state(), 12);
    }
}
