import java.math.BigInteger;

/** The edges of the instructions of RV32I and M, as the manual has them. */
public final class InstructionEdgesTest {
    private static final int MIN = Integer.MIN_VALUE;
    private static final int MAX = Integer.MAX_VALUE;
    private static final int[] VALUES = {
        0, 1, 2, 3, 31, 32, 33, 63, 64, 2047, 2048, 65535, 65536, MAX - 1, MAX, MIN, MIN + 1, -65536, -2049, -2048,
        -33, -32, -3, -2, -1, 0x55555555, 0xaaaaaaaa,
    };
    private static final int[] CONSTANTS = {-2048, -2047, -1025, -2, -1, 0, 1, 2, 31, 32, 1024, 2046, 2047};

    public static void main(String[] args) {
        Due due = new Due("InstructionEdgesTest");
        wrapAround(due);
        constants(due);
        shifts(due);
        divisions(due);
        products(due);
        comparisons(due);
        upperConstants(due);
        jumps(due);
        branches(due);
        jumpsByRegister(due);
        addressesWrap(due);
        fence(due);
        due.end();
    }

    /** Register 5 after one instruction with sources 6 and 7. */
    private static int result(RvMachine m, int word, int a, int b) {
        m.change(0, word);
        m.begin(0);
        m.set(6, a);
        m.set(7, b);
        m.run(1);
        return m.register(5);
    }

    private static void wrapAround(Due due) {
        due.about("all of RV32I: ADD and SUB wrap around");
        for (int a : VALUES) {
            RvMachine m = Asm.begun(0);
            for (int b : VALUES) {
                due.is(a + " + " + b, result(m, Asm.r(0, 0, 5, 6, 7), a, b), (int) ((long) a + b));
                due.is(a + " - " + b, result(m, Asm.r(0x20, 0, 5, 6, 7), a, b), (int) ((long) a - b));
            }
        }
    }

    private static void constants(Due due) {
        due.about("all of RV32I: constants are -2048 to 2047");
        for (int a : VALUES) {
            RvMachine m = Asm.begun(0);
            for (int c : CONSTANTS) {
                String what = " of " + a + " and " + c;
                due.is("addi" + what, result(m, Asm.i(0x13, 0, 5, 6, c), a, 0), (int) ((long) a + c));
                due.is("slti" + what, result(m, Asm.i(0x13, 2, 5, 6, c), a, 0), a < c ? 1 : 0);
                due.is("sltiu" + what, result(m, Asm.i(0x13, 3, 5, 6, c), a, 0),
                    Integer.compareUnsigned(a, c) < 0 ? 1 : 0);
                due.is("xori" + what, result(m, Asm.i(0x13, 4, 5, 6, c), a, 0), a ^ c);
                due.is("ori" + what, result(m, Asm.i(0x13, 6, 5, 6, c), a, 0), a | c);
                due.is("andi" + what, result(m, Asm.i(0x13, 7, 5, 6, c), a, 0), a & c);
            }
        }
    }

    // By the lowest five bits of a register; a constant has no more.
    private static void shifts(Due due) {
        due.about("all of RV32I: shifts are by 0 to 31");
        for (int a : new int[] {1, 3, -1, MIN, MAX, 0x55555555}) {
            for (int by = -1; by <= 65; by++) {
                RvMachine m = Asm.begun(0);
                int low = by & 31;
                long unsigned = a & 0xffffffffL;
                String what = " of " + a + " by " + by;
                due.is("sll" + what, result(m, Asm.r(0, 1, 5, 6, 7), a, by), (int) (unsigned << low));
                due.is("srl" + what, result(m, Asm.r(0, 5, 5, 6, 7), a, by), (int) (unsigned >> low));
                due.is("sra" + what, result(m, Asm.r(0x20, 5, 5, 6, 7), a, by), (int) ((long) a >> low));
                if (by == low) {
                    due.is("slli" + what, result(m, Asm.slli(5, 6, by), a, 0), (int) (unsigned << low));
                    due.is("srli" + what, result(m, Asm.i(0x13, 5, 5, 6, by), a, 0), (int) (unsigned >> low));
                    due.is("srai" + what, result(m, Asm.i(0x13, 5, 5, 6, 0x400 | by), a, 0), (int) ((long) a >> low));
                }
            }
        }
    }

    private static void divisions(Due due) {
        due.about("M: division by 0 and of the lowest number by -1");
        for (int a : VALUES) {
            for (int b : VALUES) {
                RvMachine m = Asm.begun(0);
                String what = " of " + a + " by " + b;
                int div = b == 0 ? -1 : a == MIN && b == -1 ? MIN : a / b;
                int rem = b == 0 ? a : a == MIN && b == -1 ? 0 : a % b;
                due.is("div" + what, result(m, Asm.r(1, 4, 5, 6, 7), a, b), div);
                due.is("divu" + what, result(m, Asm.r(1, 5, 5, 6, 7), a, b),
                    b == 0 ? -1 : Integer.divideUnsigned(a, b));
                due.is("rem" + what, result(m, Asm.r(1, 6, 5, 6, 7), a, b), rem);
                due.is("remu" + what, result(m, Asm.r(1, 7, 5, 6, 7), a, b),
                    b == 0 ? a : Integer.remainderUnsigned(a, b));
            }
        }
    }

    private static void products(Due due) {
        due.about("M: the lower and the upper halves of products");
        for (int a : VALUES) {
            for (int b : VALUES) {
                RvMachine m = Asm.begun(0);
                String what = " of " + a + " and " + b;
                BigInteger signedA = BigInteger.valueOf(a);
                BigInteger signedB = BigInteger.valueOf(b);
                BigInteger unsignedA = BigInteger.valueOf(a & 0xffffffffL);
                BigInteger unsignedB = BigInteger.valueOf(b & 0xffffffffL);
                due.is("mul" + what, result(m, Asm.r(1, 0, 5, 6, 7), a, b), signedA.multiply(signedB).intValue());
                due.is("mulh" + what, result(m, Asm.r(1, 1, 5, 6, 7), a, b),
                    signedA.multiply(signedB).shiftRight(32).intValue());
                due.is("mulhsu" + what, result(m, Asm.r(1, 2, 5, 6, 7), a, b),
                    signedA.multiply(unsignedB).shiftRight(32).intValue());
                due.is("mulhu" + what, result(m, Asm.r(1, 3, 5, 6, 7), a, b),
                    unsignedA.multiply(unsignedB).shiftRight(32).intValue());
            }
        }
    }

    private static void comparisons(Due due) {
        due.about("all of RV32I: comparisons, signed and unsigned");
        for (int a : VALUES) {
            for (int b : VALUES) {
                RvMachine m = Asm.begun(0);
                int unsigned = Integer.compareUnsigned(a, b);
                due.is("slt of " + a + " and " + b, result(m, Asm.r(0, 2, 5, 6, 7), a, b), a < b ? 1 : 0);
                due.is("sltu of " + a + " and " + b, result(m, Asm.r(0, 3, 5, 6, 7), a, b), unsigned < 0 ? 1 : 0);
                boolean[] taken = {a == b, a != b, false, false, a < b, a >= b, unsigned < 0, unsigned >= 0};
                for (int kind : new int[] {0, 1, 4, 5, 6, 7}) {
                    result(m, Asm.branch(kind, 6, 7, 16), a, b);
                    due.is("branch " + kind + " of " + a + " and " + b, m.register(32), taken[kind] ? 16 : 4);
                }
            }
        }
    }

    private static void upperConstants(Due due) {
        due.about("all of RV32I: LUI and AUIPC, which wraps around");
        RvMachine m = Asm.begun(Asm.NOP, 0);
        for (int upper : new int[] {0, 1, 0x7ffff, 0x80000, 0xffffe, 0xfffff}) {
            m.change(1, Asm.lui(5, upper));
            m.begin(1);
            m.run(1);
            due.is("lui " + upper, m.register(5), upper << 12);
            m.change(1, Asm.auipc(5, upper));
            m.begin(1);
            m.run(1);
            due.is("auipc " + upper, m.register(5), (upper << 12) + 4);
        }
    }

    private static void jumps(Due due) {
        due.about("all of RV32I: JAL reaches from -1048576 to 1048574");
        int[] offsets = {-1048576, -1048572, -524288, -4096, -2048, -8, -4, 0, 4, 8, 2044, 2048, 4092, 4096, 524288,
            1048568, 1048572};
        for (int offset : offsets) {
            RvMachine m = Asm.begun(Asm.NOP, Asm.jal(5, offset));
            m.run(1);
            due.is("jal " + offset, m.run(1), 1);
            due.is("where it goes", m.register(32), 4 + offset);
            due.is("where it comes from", m.register(5), 8);
            due.is("state()", m.state(), 1);
        }
    }

    private static void branches(Due due) {
        due.about("all of RV32I: branches reach from -4096 to 4094");
        for (int offset : new int[] {-4096, -4092, -2048, -1024, -36, -32, -4, 0, 4, 28, 32, 1024, 2044, 2048, 4092}) {
            RvMachine m = Asm.begun(Asm.NOP, Asm.beq(0, 0, offset));
            m.run(1);
            due.is("beq by " + offset, m.run(1), 1);
            due.is("where it goes", m.register(32), 4 + offset);
            m.change(1, Asm.bne(0, 0, offset));
            m.begin(1);
            due.is("bne by " + offset, m.run(1), 1);
            due.is("where it goes on", m.register(32), 8);
        }
    }

    private static void jumpsByRegister(Due due) {
        due.about("all of RV32I: JALR wraps around and drops the lowest bit");
        int[][] rows = {{0, 0, 0}, {0, 1, 0}, {1, 0, 0}, {1, -1, 0}, {4, -4, 0}, {5, 0, 4}, {-4, 8, 4}, {-1, 2, 0},
            {MAX, 1, MIN}, {MIN, -4, MAX - 3}, {MIN, -3, MAX - 3}, {2048, -2048, 0}, {-2047, 2047, 0}, {0, -4, -4},
            {3, 2, 4}, {2, 3, 4}};
        for (int[] row : rows) {
            RvMachine m = Asm.begun(Asm.jalr(5, 6, row[1]), Asm.NOP);
            m.set(6, row[0]);
            due.is("jalr by " + row[0] + " and " + row[1], m.run(1), 1);
            due.is("where it goes", m.register(32), row[2]);
            due.is("where it comes from", m.register(5), 4);
        }
    }

    private static void addressesWrap(Due due) {
        due.about("all of RV32I: addresses of memory wrap around");
        // An address from below 65536 up into the object, and one from above it down.
        int[][] rows = {{65536 - 2047, 2047, 0}, {65536 + 2048, -2048, 0}, {65535, 1, 0}, {65536 + 4, -1, 3},
            {-1, 2047, -1}, {MAX, 1, -1}, {MIN, -1, -1}, {65536, -1, -1}, {65536, 4, -1}};
        for (int[] row : rows) {
            RvMachine m = Asm.begun(Asm.ECALL, Asm.sb(5, row[1], 6), Asm.load(4, 7, row[1], 6));
            Asm.setForService(m, 3, 4, 0, 0);
            m.run(1);
            m.set(5, 0xab);
            m.set(6, row[0]);
            if (row[2] >= 0) {
                due.is("from " + row[0] + " by " + row[1], m.run(2), 2);
                due.is("what is read", m.register(7), 0xab);
                due.is("what is there", m.peek(65536 + row[2]), 0xab);
            } else {
                Edge.trapped(due, "from " + row[0] + " by " + row[1], m, 2, 65536, 65537, 65538, 65539);
            }
        }
    }

    private static RvMachine withRegisters(int word) {
        RvMachine m = Asm.begun(word);
        for (int k = 1; k < 32; k++) {
            m.set(k, 1000 + k);
        }
        return m;
    }

    private static void fence(Due due) {
        due.about("FENCE, whatever its fields, does nothing; FENCE.I is none");
        for (int bit = 7; bit < 32; bit++) {
            int w = 0x0000000f | 1 << bit;
            RvMachine m = withRegisters(w);
            if (bit >= 12 && bit <= 14) {
                Edge.trapped(due, Integer.toHexString(w), m, 1);
            } else {
                RvMachine twin = withRegisters(Asm.NOP);
                twin.run(1);
                due.is(Integer.toHexString(w), m.run(1), 1);
                due.isSame(Integer.toHexString(w), Seen.now(m), Seen.now(twin));
            }
        }
        for (int w : new int[] {0xfff00f8f | 31 << 15, 0x0ff0000f, 0x8330000f, 0x0100000f}) {
            due.is(Integer.toHexString(w), Asm.begun(w, Asm.EBREAK).run(5), 1);
        }
        Edge.trapped(due, "FENCE.I", Asm.begun(0x0000100f), 1);
        Edge.trapped(due, "FENCE.I with all its fields", Asm.begun(0xffff9f8f), 1);
    }
}
