/** The instructions of RV32I and M, and traps 1, 3 and 5. The words in the tables are those that GNU as makes. */
public final class InstructionsTest {
    private static final int MIN = Integer.MIN_VALUE;
    private static final int MAX = Integer.MAX_VALUE;

    // Each row: a word with target t0 and sources t1 and t2, their values, and t0 after it.
    private static final int[][] RESULTS = {
        {0x007302b3, 5, -7, -2}, {0x007302b3, MAX, 1, MIN},                                 // add
        {0x407302b3, 5, -7, 12}, {0x407302b3, MIN, 1, MAX},                                 // sub
        {0x007312b3, 3, 31, MIN}, {0x007312b3, 3, 33, 6}, {0x007312b3, 3, 32, 3},           // sll
        {0x007322b3, -1, 0, 1}, {0x007322b3, 0, -1, 0}, {0x007322b3, 4, 4, 0},              // slt
        {0x007332b3, -1, 0, 0}, {0x007332b3, 0, -1, 1}, {0x007332b3, 4, 4, 0},              // sltu
        {0x007342b3, 0x0ff0, 0x3c3c, 0x33cc},                                               // xor
        {0x007352b3, MIN, 31, 1}, {0x007352b3, -1, 36, 0x0fffffff},                         // srl
        {0x407352b3, MIN, 31, -1}, {0x407352b3, MIN, 36, 0xf8000000},                       // sra
        {0x007362b3, 0x0ff0, 0x3c3c, 0x3ffc},                                               // or
        {0x007372b3, 0x0ff0, 0x3c3c, 0x0c30},                                               // and
        {0x027302b3, -7, 3, -21}, {0x027302b3, 0x10001, 0x10001, 0x20001},                  // mul
        {0x027312b3, -1, -1, 0}, {0x027312b3, MIN, MIN, 0x40000000}, {0x027312b3, MIN, 2, -1}, // mulh
        {0x027322b3, -1, -1, -1}, {0x027322b3, MIN, -1, MIN}, {0x027322b3, MAX, -1, 0x7ffffffe}, // mulhsu
        {0x027332b3, -1, -1, -2}, {0x027332b3, MIN, 2, 1}, {0x027332b3, MIN, MIN, 0x40000000}, // mulhu
        {0x027342b3, -7, 2, -3}, {0x027342b3, 7, -2, -3}, {0x027342b3, 7, 0, -1},           // div
        {0x027342b3, MIN, -1, MIN}, {0x027342b3, MIN, 1, MIN}, {0x027342b3, 0, 0, -1},
        {0x027352b3, -7, 2, 0x7ffffffc}, {0x027352b3, 7, 0, -1}, {0x027352b3, MIN, -1, 0},  // divu
        {0x027362b3, -7, 2, -1}, {0x027362b3, 7, -2, 1}, {0x027362b3, -7, 0, -7},           // rem
        {0x027362b3, MIN, -1, 0},
        {0x027372b3, -7, 2, 1}, {0x027372b3, -7, 0, -7}, {0x027372b3, MIN, -1, MIN},        // remu
        {0x80030293, 5, 0, -2043}, {0x7ff30293, MAX, 0, MIN + 2046},                        // addi -2048, 2047
        {0xfff32293, -2, 0, 1}, {0xfff32293, -1, 0, 0}, {0xfff32293, 0, 0, 0},              // slti -1
        {0xfff33293, -2, 0, 1}, {0xfff33293, -1, 0, 0}, {0xfff33293, 0, 0, 1},              // sltiu -1
        {0xfff34293, 0x55, 0, 0xffffffaa},                                                  // xori -1
        {0x80036293, 1, 0, 0xfffff801},                                                     // ori -2048
        {0x80037293, -1, 0, 0xfffff800}, {0x7ff37293, -1, 0, 2047},                         // andi -2048, 2047
        {0x01f31293, 3, 0, MIN}, {0x00031293, 3, 0, 3}, {0x00431293, 3, 0, 48},             // slli 31, 0, 4
        {0x01f35293, -1, 0, 1}, {0x00435293, -1, 0, 0x0fffffff}, {0x00035293, -1, 0, -1},   // srli 31, 4, 0
        {0x41f35293, MIN, 0, -1}, {0x40135293, MIN, 0, 0xc0000000}, {0x40435293, 80, 0, 5}, // srai 31, 1, 4
        {0xfffff2b7, 1, 1, 0xfffff000}, {0x123452b7, 1, 1, 0x12345000},                     // lui
    };

    // Each row: a branch by 8, two values, whether it is taken.
    private static final int[][] BRANCHES = {
        {0x00730463, 4, 4, 1}, {0x00730463, 4, 5, 0},                                       // beq
        {0x00731463, 4, 4, 0}, {0x00731463, 4, 5, 1},                                       // bne
        {0x00734463, -1, 0, 1}, {0x00734463, 0, -1, 0}, {0x00734463, 4, 4, 0},              // blt
        {0x00735463, -1, 0, 0}, {0x00735463, 0, -1, 1}, {0x00735463, 4, 4, 1},              // bge
        {0x00736463, -1, 0, 0}, {0x00736463, 0, -1, 1}, {0x00736463, 4, 4, 0},              // bltu
        {0x00737463, -1, 0, 1}, {0x00737463, 0, -1, 0}, {0x00737463, 4, 4, 1},              // bgeu
    };

    public static void main(String[] args) {
        Due due = new Due("InstructionsTest");
        lookAtResults(due);
        lookAtBranches(due);
        lookAtAuipc(due);
        lookAtJumps(due);
        lookAtOffsets(due);
        lookAtSelfTargets(due);
        lookAtAddressesThatAreNone(due);
        lookAtFence(due);
        lookAtWordsThatAreNone(due);
        due.end();
    }

    private static void lookAtResults(Due due) {
        for (int[] row : RESULTS) {
            RvMachine m = Asm.begun(row[0]);
            m.set(5, 99);
            m.set(6, row[1]);
            m.set(7, row[2]);
            String what = Integer.toHexString(row[0]) + " of " + row[1] + " and " + row[2];
            due.is(what + " is done", m.run(1), 1);
            due.is(what, m.register(5), row[3]);
            due.is(what + " leaves t1", m.register(6), row[1]);
            due.is(what + " leaves t2", m.register(7), row[2]);
            due.is(what + " goes on at", m.register(32), 4);
        }
    }

    private static void lookAtBranches(Due due) {
        for (int[] row : BRANCHES) {
            RvMachine m = Asm.begun(row[0]);
            m.set(6, row[1]);
            m.set(7, row[2]);
            String what = Integer.toHexString(row[0]) + " of " + row[1] + " and " + row[2];
            due.is(what + " is done", m.run(1), 1);
            due.is(what + " goes to", m.register(32), row[3] == 1 ? 8 : 4);
        }
    }

    private static void lookAtAuipc(Due due) {
        RvMachine m = Asm.begun(Asm.NOP, 0xfffff297, 0x12345297);
        m.run(2);
        due.is("auipc t0, 0xfffff at 4", m.register(5), 4 - 4096);
        m.run(1);
        due.is("auipc t0, 0x12345 at 8", m.register(5), 0x12345008);
    }

    private static void lookAtJumps(Due due) {
        RvMachine m = Asm.begun(0x008000ef, Asm.EBREAK, 0xff9ff2ef);
        m.run(1);
        due.is("jal ra, 8: ra", m.register(1), 4);
        due.is("jal ra, 8: goes to", m.register(32), 8);
        m.run(1);
        due.is("jal t0, -8: t0", m.register(5), 12);
        due.is("jal t0, -8: goes to", m.register(32), 0);
        RvMachine r = Asm.begun(0xffd300e7, Asm.NOP);
        r.set(6, 3 + 4);
        r.run(1);
        due.is("jalr ra, -3(t1): ra", r.register(1), 4);
        due.is("jalr ra, -3(t1): goes to", r.register(32), 4);
        RvMachine odd = Asm.begun(0xffd300e7, Asm.NOP);
        odd.set(6, 3 + 5);
        due.is("jalr to an odd address: run(1)", odd.run(1), 1);
        due.is("its lowest bit is dropped", odd.register(32), 4);
    }

    // The farthest jumps and each bit of an offset; where they lead to is looked at only by the next run.
    private static void lookAtOffsets(Due due) {
        for (int bit = 2; bit <= 20; bit++) {
            int offset = bit == 20 ? -(1 << 20) : 1 << bit;
            RvMachine m = Asm.begun(Asm.jal(1, offset));
            due.is("jal " + offset + ": run(1)", m.run(1), 1);
            due.is("jal " + offset, m.register(32), offset);
            due.is("state()", m.state(), 1);
            due.is("run(1) there", m.run(1), offset == 0 ? 1 : 0);
            due.is("state() there", m.state(), 13);
            due.is("register(32) there", m.register(32), offset);
        }
        for (int bit = 2; bit <= 12; bit++) {
            int offset = bit == 12 ? -4096 : 1 << bit;
            RvMachine m = Asm.begun(Asm.beq(0, 0, offset));
            due.is("beq " + offset + ": run(1)", m.run(1), 1);
            due.is("beq " + offset, m.register(32), offset);
        }
    }

    private static void lookAtSelfTargets(Due due) {
        RvMachine m = Asm.begun(Asm.NOP, Asm.jalr(6, 6, 4), Asm.NOP, Asm.addi(6, 6, 1));
        m.set(6, 8);
        m.run(3);
        due.is("jalr t1, 4(t1): goes to, then adds", m.register(6), 9);
        RvMachine r = Asm.begun(0x02734333);
        r.set(6, 20);
        r.set(7, 6);
        r.run(1);
        due.is("div t1, t1, t2", r.register(6), 3);
    }

    private static void lookAtAddressesThatAreNone(Due due) {
        lookAtTrap(due, "jal ra, 6", 0x006000ef, 13);
        lookAtTrap(due, "jal ra, -2", 0xfffff0ef, 13);
        lookAtTrap(due, "jalr ra, 2(zero)", 0x002000e7, 13);
        lookAtTrap(due, "jalr ra, 3(zero)", 0x003000e7, 13);
        lookAtTrap(due, "beq zero, zero, 6", Asm.beq(0, 0, 6), 13);
        RvMachine m = Asm.begun(Asm.bne(0, 0, 6), Asm.NOP);
        due.is("a branch to 6 that is not taken", m.run(2), 2);
        due.is("state() behind the last word", m.state(), 1);
        due.is("register(32) behind the last word", m.register(32), 8);
        due.is("run(1)", m.run(1), 0);
        due.is("state()", m.state(), 13);
        due.is("register(32)", m.register(32), 8);
        RvMachine below = Asm.begun(Asm.jal(1, -4), Asm.NOP);
        due.is("jal ra, -4 at 0", below.run(5), 1);
        due.is("state()", below.state(), 13);
        due.is("register(32)", below.register(32), -4);
        due.is("register(1)", below.register(1), 4);
        RvMachine far = Asm.begun(Asm.jalr(0, 6, 0), Asm.NOP);
        far.set(6, MIN);
        due.is("jalr to 0x80000000", far.run(5), 1);
        due.is("state()", far.state(), 13);
        due.is("register(32)", far.register(32), MIN);
    }

    private static void lookAtFence(Due due) {
        for (int w : new int[] {0x0ff0000f, 0x0000000f, 0x8330000f, 0xffff8f8f, 0x0100000f}) {
            RvMachine m = Asm.begun(w, Asm.EBREAK);
            m.set(31, 7);
            due.is("fence " + Integer.toHexString(w), m.run(5), 1);
            due.is("state()", m.state(), 15);
            due.is("register(31)", m.register(31), 7);
        }
        for (int middle = 1; middle < 8; middle++) {
            lookAtTrap(due, "fence with " + middle, 0x0000000f | middle << 12, 11);
        }
    }

    private static void lookAtWordsThatAreNone(Due due) {
        lookAtTrap(due, "EBREAK", Asm.EBREAK, 15);
        int[] none = {
            0x00000000, 0xffffffff, 0x00000001, 0x00000002, 0x0000001f, 0x00000011,
            0x00200073, 0x00000173, 0x00008073, 0x10500073, 0x30200073, 0x00100173, 0xc0001073, 0x34002573,
            0x02531293, 0x40131293, 0x02035293, 0x60135293, 0xc0135293, 0x80031293,
            0x407312b3, 0x407322b3, 0x407332b3, 0x407342b3, 0x407362b3, 0x407372b3,
            0x047302b3, 0x807302b3, 0xc07302b3, 0x427352b3, 0x227342b3, 0xfe7302b3, 0x107302b3,
            0x00732463, 0x00733463,
            0x00033283, 0x00036283, 0x00037283,
            0x00533023, 0x00534023, 0x00535023, 0x00536023, 0x00537023,
            0x000310e7, 0x000320e7, 0x000340e7, 0x000370e7,
            0x007302bb, 0x0003029b, 0x0073202f, 0x00032287, 0x00732027, 0x007372d3, 0x0000000b, 0x0000007f,
        };
        for (int w : none) {
            lookAtTrap(due, Integer.toHexString(w), w, 11);
        }
    }

    // The trap ends the run at that word, and nothing of it is done.
    private static void lookAtTrap(Due due, String what, int w, int state) {
        RvMachine m = Asm.begun(Asm.NOP, w);
        for (int k = 1; k < 32; k++) {
            m.set(k, 0x10000000 + k);
        }
        due.is(what + ": run(5)", m.run(5), 1);
        due.is(what + ": state()", m.state(), state);
        due.is(what + ": register(32)", m.register(32), 4);
        due.is(what + ": count(4)", m.count(4), 1);
        for (int k = 1; k < 32; k++) {
            due.is(what + ": register(" + k + ")", m.register(k), 0x10000000 + k);
        }
    }
}
