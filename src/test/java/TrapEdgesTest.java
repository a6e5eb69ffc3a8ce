/** The edges that the document names for the traps. */
public final class TrapEdgesTest {
    public static void main(String[] args) {
        Due due = new Due("TrapEdgesTest");
        nothingIsDone(due);
        breaks(due);
        addressBehindTheWords(due);
        addressFarAway(due);
        lookedAtWhenRun(due);
        notAMultipleOfFour(due);
        notTaken(due);
        firstTrap(due);
        due.end();
    }

    /** A machine at its last word, with a value in every register and an object of 8 bytes. */
    private static RvMachine at(int word) {
        RvMachine m = Asm.begun(Asm.ECALL, word);
        Asm.setForService(m, 3, 8, 0, 0);
        m.run(1);
        for (int k = 1; k < 32; k++) {
            m.set(k, 0x00010000 + 4 * k);
        }
        m.set(6, 65536);
        m.set(5, -1);
        return m;
    }

    private static void trapped(Due due, String what, int word, int trap) {
        Edge.trapped(due, what + " " + Integer.toHexString(word), at(word), trap,
            65536, 65537, 65538, 65539, 65540, 65541, 65542, 65543);
    }

    private static void nothingIsDone(Due due) {
        due.about("TRAPS end the RUN (nothing of the instruction is done)");
        trapped(due, "a word of zeros", 0, 1);
        trapped(due, "a word of ones", -1, 1);
        trapped(due, "slli with a sixth bit", Asm.slli(7, 6, 32), 1);
        trapped(due, "lw behind the object", Asm.lw(7, 8, 6), 2);
        trapped(due, "lw into its own base", Asm.lw(6, 8, 6), 2);
        trapped(due, "lh askew", Asm.load(1, 7, 1, 6), 2);
        trapped(due, "sw partly behind the object", Asm.sw(5, 6, 6), 2);
        trapped(due, "sh askew", Asm.store(1, 5, 3, 6), 2);
        trapped(due, "sb behind the object", Asm.sb(5, 8, 6), 2);
        trapped(due, "jal", Asm.jal(1, 6), 3);
        trapped(due, "jalr", Asm.jalr(1, 6, 2), 3);
        trapped(due, "jalr into its own base", Asm.jalr(6, 6, 2), 3);
        trapped(due, "beq", Asm.beq(7, 7, 6), 3);
        trapped(due, "a service that is none", Asm.ECALL, 4);
        trapped(due, "EBREAK", Asm.EBREAK, 5);
    }

    private static void breaks(Due due) {
        due.about("EBREAK is TRAP 5");
        trapped(due, "EBREAK", 0x00100073, 5);
        for (int bit = 7; bit < 32; bit++) {
            int near = 0x00100073 ^ 1 << bit;
            if (near != Asm.ECALL) {
                trapped(due, "near EBREAK", near, 1);
            }
            if ((0x00000073 ^ 1 << bit) != Asm.EBREAK) {
                trapped(due, "near ECALL", 0x00000073 ^ 1 << bit, 1);
            }
        }
    }

    private static void addressBehindTheWords(Due due) {
        due.about("3 an address of an instruction that is none (of a word that is there)");
        for (int n = 1; n <= 3; n++) {
            RvMachine m = new RvMachine();
            for (int k = 0; k < n; k++) {
                m.word(Asm.NOP);
            }
            m.begin(0);
            due.is("run of " + n + " words", m.run(n), n);
            due.is("register(32)", m.register(32), 4 * n);
            Edge.trapped(due, "behind " + n + " words", m, 3);
        }
    }

    private static void addressFarAway(Due due) {
        due.about("3 an address of an instruction that is none (of a word that is there)");
        for (int address : new int[] {8, 12, 16000, 16004, 65536, 0x7ffffffc, 0x80000000, 0x80000004, -8, -4}) {
            RvMachine m = Asm.begun(Asm.jalr(1, 6, 0), Asm.NOP);
            m.set(6, address);
            due.is("the jump to " + address, m.run(1), 1);
            due.is("register(1)", m.register(1), 4);
            due.is("register(32)", m.register(32), address);
            Edge.trapped(due, "at " + address, m, 3);
        }
        for (int address : new int[] {0, 4}) {
            RvMachine m = Asm.begun(Asm.jalr(1, 6, 0), Asm.NOP);
            m.set(6, address);
            due.is("the jump to " + address + " and what is there", m.run(2), 2);
        }
    }

    private static void lookedAtWhenRun(Due due) {
        due.about("looked at when it is to be run");
        RvMachine m = Asm.begun(Asm.NOP);
        due.is("run(1) of one word", m.run(1), 1);
        due.is("state() behind it", m.state(), 1);
        due.is("a word more", m.word(Asm.jal(0, 8)), 2);
        due.is("run(1) of it", m.run(1), 1);
        due.is("register(32)", m.register(32), 12);
        due.is("state()", m.state(), 1);
        m.word(Asm.NOP);
        m.word(Asm.li(5, 8));
        due.is("run(9) of what came later", m.run(9), 1);
        due.is("register(5)", m.register(5), 8);
        due.is("state()", m.state(), 13);
        m.word(Asm.NOP);
        due.is("state() of a run that has ended", m.state(), 13);
        due.isThrown("run(1) of it", IllegalStateException.class, () -> m.run(1));
    }

    private static void notAMultipleOfFour(Due due) {
        due.about("not a multiple of 4: at the jump or branch that is taken");
        for (int offset = -8; offset <= 8; offset += 2) {
            for (int word : new int[] {Asm.jal(1, offset), Asm.beq(7, 7, offset), Asm.branch(5, 7, 7, offset),
                Asm.branch(7, 7, 7, offset), Asm.jalr(1, 0, offset), Asm.jalr(1, 0, offset + 1)}) {
                if (offset % 4 != 0) {
                    trapped(due, "by " + offset, word, 3);
                } else {
                    due.is("by " + offset + ": " + Integer.toHexString(word), at(word).run(1), 1);
                }
            }
        }
        trapped(due, "to no word at all", Asm.jal(1, 1048574), 3);
        trapped(due, "to no word at all", Asm.beq(0, 0, 4094), 3);
    }

    private static void notTaken(Due due) {
        due.about("at the jump or branch that is taken");
        for (int kind : new int[] {1, 4, 6}) {
            for (int offset : new int[] {2, 6, -2, 4094}) {
                RvMachine m = at(Asm.branch(kind, 7, 7, offset));
                due.is("branch " + kind + " by " + offset, m.run(1), 1);
                due.is("state()", m.state(), 1);
                due.is("register(32)", m.register(32), 8);
            }
        }
    }

    // An instruction that is none is not looked at further, whatever its address would be.
    private static void firstTrap(Due due) {
        due.about("1 an instruction that is none of them");
        trapped(due, "a load that is none, from nowhere", Asm.load(3, 7, 0, 0), 1);
        trapped(due, "a store that is none, to nowhere", Asm.store(3, 7, 0, 0), 1);
        trapped(due, "a jump that is none, askew", Asm.jalr(1, 0, 2) | 1 << 12, 1);
        trapped(due, "a branch that is none, askew", Asm.branch(2, 7, 7, 2), 1);
        trapped(due, "a branch that is none, askew", Asm.branch(3, 7, 7, 2), 1);
    }
}
