/** Machines with something of everything, so that a call that is refused has much that it could spoil. */
final class Busy {
    static final int[] STATES = {0, 1, 2, 11, 12, 13, 14, 15};

    /** The first and the last bytes of its objects, and the addresses behind them. */
    static final int[] ADDRESSES = {
        0, 0xffff, 0x10000, 0x10004, 0x10005, 0x10006, 0x20000, 0x20008, 0x20009, 0x30000, 0x40000,
    };

    // What it has done when it is in the middle: a LAST object of 6 bytes and a GIVEN one of 9, each with its last
    // byte written, a byte of the input read, two bytes written.
    private static final int[] PROGRAM = {
        Asm.li(5, -91), Asm.li(Asm.A0, 6), Asm.li(Asm.A7, 1), Asm.ECALL, Asm.sb(5, 5, Asm.A0),
        Asm.li(Asm.A0, 9), Asm.li(Asm.A7, 3), Asm.ECALL, Asm.sb(5, 8, Asm.A0),
        Asm.li(Asm.A7, 6), Asm.ECALL, Asm.li(Asm.A7, 5), Asm.ECALL, Asm.ECALL,
        Asm.addi(Asm.A0, Asm.A0, 1), Asm.ECALL, Asm.li(Asm.A7, 1), Asm.ECALL,
    };
    private static final int MIDDLE = 14;

    private Busy() { }

    static RvMachine inState(int state) {
        RvMachine m = new RvMachine();
        for (int w : PROGRAM) {
            m.word(w);
        }
        for (int w : end(state)) {
            m.word(w);
        }
        m.input(0x0102f304L, 4);
        if (state == 0) {
            m.set(1, 71);
            m.set(31, -72);
            return m;
        }
        m.begin(0);
        m.set(31, 73);
        m.run(state == 1 ? MIDDLE : 100);
        return m;
    }

    private static int[] end(int state) {
        switch (state) {
            case 11: return new int[] {Asm.NOP, 0};
            case 12: return new int[] {Asm.NOP, Asm.lw(6, 0, 0)};
            case 13: return new int[] {Asm.NOP, Asm.jal(6, 2)};
            case 14: return new int[] {Asm.li(Asm.A7, 9), Asm.ECALL};
            case 15: return new int[] {Asm.NOP, Asm.EBREAK};
            default: return new int[] {Asm.li(Asm.A7, 0), Asm.ECALL};
        }
    }

    static int words() {
        return PROGRAM.length + 2;
    }
}
