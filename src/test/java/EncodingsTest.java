/**
 * "1 an instruction that is none of them": every opcode with all that tells its instructions apart, beside the
 * manual's list of RV32I and M (chapter 24), with FENCE and ECALL as the document has them.
 */
public final class EncodingsTest {
    private static final int OPCODE = 0x0000007f;
    private static final int MIDDLE = 0x0000707f;
    private static final int TOP = 0xfe00707f;

    // Each row: which bits tell the instruction, and what they are.
    private static final int[][] INSTRUCTIONS = {
        {OPCODE, 0x37}, {OPCODE, 0x17}, {OPCODE, 0x6f}, {MIDDLE, 0x67},                           // lui auipc jal jalr
        {MIDDLE, 0x0063}, {MIDDLE, 0x1063}, {MIDDLE, 0x4063},                                     // beq bne blt
        {MIDDLE, 0x5063}, {MIDDLE, 0x6063}, {MIDDLE, 0x7063},                                     // bge bltu bgeu
        {MIDDLE, 0x0003}, {MIDDLE, 0x1003}, {MIDDLE, 0x2003}, {MIDDLE, 0x4003}, {MIDDLE, 0x5003}, // lb lh lw lbu lhu
        {MIDDLE, 0x0023}, {MIDDLE, 0x1023}, {MIDDLE, 0x2023},                                     // sb sh sw
        {MIDDLE, 0x0013}, {MIDDLE, 0x2013}, {MIDDLE, 0x3013},                                     // addi slti sltiu
        {MIDDLE, 0x4013}, {MIDDLE, 0x6013}, {MIDDLE, 0x7013},                                     // xori ori andi
        {TOP, 0x00001013}, {TOP, 0x00005013}, {TOP, 0x40005013},                                  // slli srli srai
        {TOP, 0x00000033}, {TOP, 0x40000033}, {TOP, 0x00001033}, {TOP, 0x00002033},               // add sub sll slt
        {TOP, 0x00003033}, {TOP, 0x00004033}, {TOP, 0x00005033}, {TOP, 0x40005033},               // sltu xor srl sra
        {TOP, 0x00006033}, {TOP, 0x00007033},                                                     // or and
        {MIDDLE, 0x000f}, {-1, 0x00000073}, {-1, 0x00100073},                                     // fence ecall ebreak
        {TOP, 0x02000033}, {TOP, 0x02001033}, {TOP, 0x02002033}, {TOP, 0x02003033},               // mul mulh(su, u)
        {TOP, 0x02004033}, {TOP, 0x02005033}, {TOP, 0x02006033}, {TOP, 0x02007033},               // div divu rem remu
    };
    private static final int WORDS_A_MACHINE = 120;

    private final Due due = new Due("EncodingsTest");
    private RvMachine machine;
    private int words;

    public static void main(String[] args) {
        EncodingsTest test = new EncodingsTest();
        test.due.about("1 an instruction that is none of them");
        for (int opcode = 0; opcode < 128; opcode++) {
            for (int middle = 0; middle < 8; middle++) {
                for (int top = 0; top < 128; top++) {
                    test.look(top << 25 | middle << 12 | opcode);
                    test.look(top << 25 | 19 << 20 | 22 << 15 | middle << 12 | 13 << 7 | opcode);
                }
            }
        }
        test.due.end();
    }

    private static boolean isInstruction(int w) {
        for (int[] row : INSTRUCTIONS) {
            if ((w & row[0]) == row[1]) {
                return true;
            }
        }
        return false;
    }

    private void look(int w) {
        if (words % WORDS_A_MACHINE == 0) {
            machine = Asm.begun(w);
        }
        words++;
        machine.change(0, w);
        machine.begin(0);
        machine.run(1);
        due.is("whether " + Integer.toHexString(w) + " is none", machine.state() == 11 ? 1 : 0,
            isInstruction(w) ? 0 : 1);
    }
}
