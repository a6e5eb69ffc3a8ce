/** Makes the words of instructions, and machines with programs of them. */
final class Asm {
    static final int A0 = 10;
    static final int A1 = 11;
    static final int A2 = 12;
    static final int A7 = 17;
    static final int ECALL = 0x00000073;
    static final int EBREAK = 0x00100073;
    static final int NOP = 0x00000013;

    private Asm() { }

    static int r(int funct7, int funct3, int rd, int rs1, int rs2) {
        return funct7 << 25 | rs2 << 20 | rs1 << 15 | funct3 << 12 | rd << 7 | 0x33;
    }

    static int i(int opcode, int funct3, int rd, int rs1, int imm) {
        return imm << 20 | rs1 << 15 | funct3 << 12 | rd << 7 | opcode;
    }

    static int li(int rd, int imm) {
        return addi(rd, 0, imm);
    }

    static int addi(int rd, int rs1, int imm) {
        return i(0x13, 0, rd, rs1, imm);
    }

    static int slli(int rd, int rs1, int by) {
        return i(0x13, 1, rd, rs1, by);
    }

    static int lui(int rd, int upper) {
        return upper << 12 | rd << 7 | 0x37;
    }

    static int auipc(int rd, int upper) {
        return upper << 12 | rd << 7 | 0x17;
    }

    static int add(int rd, int rs1, int rs2) {
        return r(0, 0, rd, rs1, rs2);
    }

    static int load(int funct3, int rd, int offset, int rs1) {
        return i(0x03, funct3, rd, rs1, offset);
    }

    static int lw(int rd, int offset, int rs1) {
        return load(2, rd, offset, rs1);
    }

    static int store(int funct3, int rs2, int offset, int rs1) {
        return (offset >> 5) << 25 | rs2 << 20 | rs1 << 15 | funct3 << 12 | (offset & 31) << 7 | 0x23;
    }

    static int sb(int rs2, int offset, int rs1) {
        return store(0, rs2, offset, rs1);
    }

    static int sw(int rs2, int offset, int rs1) {
        return store(2, rs2, offset, rs1);
    }

    static int branch(int funct3, int rs1, int rs2, int offset) {
        return (offset >> 12) << 31 | (offset >> 5 & 63) << 25 | rs2 << 20 | rs1 << 15 | funct3 << 12
            | (offset >> 1 & 15) << 8 | (offset >> 11 & 1) << 7 | 0x63;
    }

    static int beq(int rs1, int rs2, int offset) {
        return branch(0, rs1, rs2, offset);
    }

    static int bne(int rs1, int rs2, int offset) {
        return branch(1, rs1, rs2, offset);
    }

    static int jal(int rd, int offset) {
        return (offset >> 20) << 31 | (offset >> 1 & 1023) << 21 | (offset >> 11 & 1) << 20
            | (offset >> 12 & 255) << 12 | rd << 7 | 0x6f;
    }

    static int jalr(int rd, int rs1, int offset) {
        return i(0x67, 0, rd, rs1, offset);
    }

    /** A new machine with these words, begun at the first of them. */
    static RvMachine begun(int... words) {
        RvMachine m = new RvMachine();
        for (int w : words) {
            m.word(w);
        }
        m.begin(0);
        return m;
    }

    /** A begun machine whose only word is an ECALL, to be done again and again by call. */
    static RvMachine forServices() {
        return begun(ECALL, jal(0, -4));
    }

    static void setForService(RvMachine m, int service, int a0, int a1, int a2) {
        m.set(A7, service);
        m.set(A0, a0);
        m.set(A1, a1);
        m.set(A2, a2);
    }

    /** Does a service and comes back to the ECALL; answers register 10, or -1000 - the trap. */
    static int call(RvMachine m, int service, int a0, int a1, int a2) {
        setForService(m, service, a0, a1, a2);
        int done = m.run(2);
        return done == 2 ? m.register(A0) : -1000 - (m.state() - 10);
    }

    static int call(RvMachine m, int service, int a0) {
        return call(m, service, a0, 0, 0);
    }
}
