import java.math.BigInteger;
import java.util.ArrayDeque;
import java.util.ArrayList;
import java.util.Arrays;
import java.util.List;
import java.util.Map;
import java.util.TreeMap;

/**
 * The document once more, in its plainest form and without a thought for room or speed: what a machine's answers are
 * compared with. It is written from the document and the manual, not from RvMachine, and shares nothing with it.
 */
final class Plain {
    // The manual's tables (chapter 24), a row an instruction: its name, then its bits from the highest on.
    private static final String[] MANUAL = {
        "lui    .................... ..... 0110111", "auipc  .................... ..... 0010111",
        "jal    .................... ..... 1101111", "jalr   ............ ..... 000 ..... 1100111",
        "beq    ....... ..... ..... 000 ..... 1100011", "bne    ....... ..... ..... 001 ..... 1100011",
        "blt    ....... ..... ..... 100 ..... 1100011", "bge    ....... ..... ..... 101 ..... 1100011",
        "bltu   ....... ..... ..... 110 ..... 1100011", "bgeu   ....... ..... ..... 111 ..... 1100011",
        "lb     ............ ..... 000 ..... 0000011", "lh     ............ ..... 001 ..... 0000011",
        "lw     ............ ..... 010 ..... 0000011", "lbu    ............ ..... 100 ..... 0000011",
        "lhu    ............ ..... 101 ..... 0000011", "sb     ....... ..... ..... 000 ..... 0100011",
        "sh     ....... ..... ..... 001 ..... 0100011", "sw     ....... ..... ..... 010 ..... 0100011",
        "addi   ............ ..... 000 ..... 0010011", "slti   ............ ..... 010 ..... 0010011",
        "sltiu  ............ ..... 011 ..... 0010011", "xori   ............ ..... 100 ..... 0010011",
        "ori    ............ ..... 110 ..... 0010011", "andi   ............ ..... 111 ..... 0010011",
        "slli   0000000 ..... ..... 001 ..... 0010011", "srli   0000000 ..... ..... 101 ..... 0010011",
        "srai   0100000 ..... ..... 101 ..... 0010011", "add    0000000 ..... ..... 000 ..... 0110011",
        "sub    0100000 ..... ..... 000 ..... 0110011", "sll    0000000 ..... ..... 001 ..... 0110011",
        "slt    0000000 ..... ..... 010 ..... 0110011", "sltu   0000000 ..... ..... 011 ..... 0110011",
        "xor    0000000 ..... ..... 100 ..... 0110011", "srl    0000000 ..... ..... 101 ..... 0110011",
        "sra    0100000 ..... ..... 101 ..... 0110011", "or     0000000 ..... ..... 110 ..... 0110011",
        "and    0000000 ..... ..... 111 ..... 0110011", "fence  ............ ..... 000 ..... 0001111",
        "ecall  000000000000 00000 000 00000 1110011", "ebreak 000000000001 00000 000 00000 1110011",
        "mul    0000001 ..... ..... 000 ..... 0110011", "mulh   0000001 ..... ..... 001 ..... 0110011",
        "mulhsu 0000001 ..... ..... 010 ..... 0110011", "mulhu  0000001 ..... ..... 011 ..... 0110011",
        "div    0000001 ..... ..... 100 ..... 0110011", "divu   0000001 ..... ..... 101 ..... 0110011",
        "rem    0000001 ..... ..... 110 ..... 0110011", "remu   0000001 ..... ..... 111 ..... 0110011",
    };
    private static final List<Row> ROWS = new ArrayList<>();

    static {
        for (String line : MANUAL) {
            int gap = line.indexOf(' ');
            String bits = line.substring(gap).replace(" ", "");
            ROWS.add(new Row(line.substring(0, gap), Integer.parseUnsignedInt(
                bits.replace('0', '1').replace('.', '0'), 2), Integer.parseUnsignedInt(bits.replace('.', '0'), 2)));
        }
    }

    /** An instruction of the manual: which bits tell it, and what they are. */
    record Row(String name, int mask, int bits) { }

    /** An object that is there. */
    private record Thing(byte[] bytes, boolean given) { }

    /** Thrown before anything of the instruction is done. */
    private static final class Trap extends RuntimeException {
        private static final long serialVersionUID = 1;
        final int number;

        Trap(int number) {
            super(null, null, false, false);
            this.number = number;
        }
    }

    private final List<Integer> words = new ArrayList<>();
    private final int[] registers = new int[32];
    private final TreeMap<Integer, Thing> things = new TreeMap<>();
    private final ArrayDeque<Integer> unread = new ArrayDeque<>();
    private final ArrayDeque<Integer> written = new ArrayDeque<>();
    private int made;
    private int state;
    private int done;
    private int at;
    private int goesTo;

    static List<Row> rows() {
        return ROWS;
    }

    int word(int w) {
        if (words.size() == 4000) {
            throw new IllegalStateException();
        }
        words.add(w);
        return words.size();
    }

    int change(int k, int w) {
        needIndex(k, 0, words.size() - 1);
        return words.set(k, w);
    }

    private static void needIndex(int k, int least, int most) {
        if (k < least || k > most) {
            throw new IndexOutOfBoundsException();
        }
    }

    void begin(int k) {
        needIndex(k, 0, words.size() - 1);
        Arrays.fill(registers, 0);
        things.clear();
        written.clear();
        made = 0;
        done = 0;
        state = 1;
        at = 4 * k;
    }

    int run(int n) {
        if (n < 1 || n > 10000) {
            throw new IllegalArgumentException();
        }
        if (state != 1) {
            throw new IllegalStateException();
        }
        int before = done;
        try {
            while (state == 1 && done - before < n) {
                step();
                done++;
            }
        } catch (Trap t) {
            state = 10 + t.number;
        }
        return done - before;
    }

    int state() {
        return state;
    }

    int register(int k) {
        needIndex(k, 0, 32);
        return k == 32 ? at : registers[k];
    }

    int set(int k, int v) {
        needIndex(k, 1, 31);
        int before = registers[k];
        registers[k] = v;
        return before;
    }

    int peek(int address) {
        return mayBeUsed(address, 1) ? byteAt(address) : -1;
    }

    int input(long w, int n) {
        if (n < 0 || n > 8) {
            throw new IllegalArgumentException();
        }
        if (unread.size() + n > 1000) {
            throw new IllegalStateException();
        }
        byte[] all = new byte[] {(byte) (w >> 56), (byte) (w >> 48), (byte) (w >> 40), (byte) (w >> 32),
            (byte) (w >> 24), (byte) (w >> 16), (byte) (w >> 8), (byte) w};
        for (int i = 8 - n; i < 8; i++) {
            unread.add(all[i] & 255);
        }
        return unread.size();
    }

    long take() {
        BigInteger number = BigInteger.ZERO;
        for (int i = 0; i < 8 && !written.isEmpty(); i++) {
            number = number.multiply(BigInteger.valueOf(256)).add(BigInteger.valueOf(written.remove()));
        }
        return number.longValue();
    }

    int count(int what) {
        switch (what) {
            case 0: return words.size();
            case 1: return made;
            case 2: return things.values().stream().mapToInt(t -> (t.bytes.length + 3) / 4 * 4).sum();
            case 3: return (int) things.values().stream().filter(t -> !t.given).count();
            case 4: return done;
            case 5: return written.size();
            case 6: return unread.size();
            default: throw new IllegalArgumentException();
        }
    }

    private static String nameOf(int w) {
        for (Row row : ROWS) {
            if ((w & row.mask) == row.bits) {
                return row.name;
            }
        }
        throw new Trap(1);
    }

    private void step() {
        long k = Integer.toUnsignedLong(at) / 4;
        if (k >= words.size()) {
            throw new Trap(3);
        }
        int w = words.get((int) k);
        goesTo = at + 4;
        instruction(nameOf(w), w);
        if (state == 1) {
            at = goesTo;
        }
    }

    private static int field(int w, int high, int low) {
        return (int) (Integer.toUnsignedLong(w) >> low) & (1 << high - low + 1) - 1;
    }

    private static int signed(int value, int bits) {
        return value >= 1 << bits - 1 ? value - (1 << bits) : value;
    }

    private void keep(int w, int value) {
        if (field(w, 11, 7) != 0) {
            registers[field(w, 11, 7)] = value;
        }
    }

    private void goTo(int address) {
        if (address % 4 != 0) {
            throw new Trap(3);
        }
        goesTo = address;
    }

    private void instruction(String name, int w) {
        int a = registers[field(w, 19, 15)];
        int b = registers[field(w, 24, 20)];
        int constant = signed(field(w, 31, 20), 12);
        int place = signed(field(w, 31, 25) << 5 | field(w, 11, 7), 12);
        switch (name) {
            case "lui": keep(w, field(w, 31, 12) * 4096); break;
            case "auipc": keep(w, at + field(w, 31, 12) * 4096); break;
            case "jal":
                goTo(at + signed(field(w, 31, 31) << 20 | field(w, 19, 12) << 12 | field(w, 20, 20) << 11
                    | field(w, 30, 21) << 1, 21));
                keep(w, at + 4);
                break;
            case "jalr":
                goTo(Math.floorDiv(a + constant, 2) * 2);
                keep(w, at + 4);
                break;
            case "beq": branch(w, a == b); break;
            case "bne": branch(w, a != b); break;
            case "blt": branch(w, a < b); break;
            case "bge": branch(w, a >= b); break;
            case "bltu": branch(w, Integer.compareUnsigned(a, b) < 0); break;
            case "bgeu": branch(w, Integer.compareUnsigned(a, b) >= 0); break;
            case "lb": keep(w, signed(load(a + constant, 1), 8)); break;
            case "lbu": keep(w, load(a + constant, 1)); break;
            case "lh": keep(w, signed(load(a + constant, 2), 16)); break;
            case "lhu": keep(w, load(a + constant, 2)); break;
            case "lw": keep(w, load(a + constant, 4)); break;
            case "sb": store(a + place, 1, b); break;
            case "sh": store(a + place, 2, b); break;
            case "sw": store(a + place, 4, b); break;
            case "slli": case "srli": case "srai":
                keep(w, result(name.substring(0, 3), a, field(w, 24, 20)));
                break;
            case "addi": case "slti": case "xori": case "ori": case "andi":
                keep(w, result(name.substring(0, name.length() - 1), a, constant));
                break;
            case "sltiu": keep(w, result("sltu", a, constant)); break;
            case "fence": break;
            case "ecall": service(registers[17], registers[10], registers[11], registers[12]); break;
            case "ebreak": throw new Trap(5);
            default: keep(w, result(name, a, b)); break;
        }
    }

    private void branch(int w, boolean taken) {
        if (taken) {
            goTo(at + signed(field(w, 31, 31) << 12 | field(w, 7, 7) << 11 | field(w, 30, 25) << 5
                | field(w, 11, 8) << 1, 13));
        }
    }

    private static BigInteger big(int a) {
        return BigInteger.valueOf(a);
    }

    private static BigInteger bigUnsigned(int a) {
        return BigInteger.valueOf(Integer.toUnsignedLong(a));
    }

    private static int result(String name, int a, int b) {
        int by = b & 31;
        switch (name) {
            case "add": return big(a).add(big(b)).intValue();
            case "sub": return big(a).subtract(big(b)).intValue();
            case "sll": return big(a).shiftLeft(by).intValue();
            case "srl": return bigUnsigned(a).shiftRight(by).intValue();
            case "sra": return big(a).shiftRight(by).intValue();
            case "slt": return big(a).compareTo(big(b)) < 0 ? 1 : 0;
            case "sltu": return bigUnsigned(a).compareTo(bigUnsigned(b)) < 0 ? 1 : 0;
            case "xor": return big(a).xor(big(b)).intValue();
            case "or": return big(a).or(big(b)).intValue();
            case "and": return big(a).and(big(b)).intValue();
            case "mul": return big(a).multiply(big(b)).intValue();
            case "mulh": return big(a).multiply(big(b)).shiftRight(32).intValue();
            case "mulhsu": return big(a).multiply(bigUnsigned(b)).shiftRight(32).intValue();
            case "mulhu": return bigUnsigned(a).multiply(bigUnsigned(b)).shiftRight(32).intValue();
            case "div": return b == 0 ? -1 : big(a).divide(big(b)).intValue();
            case "divu": return b == 0 ? -1 : bigUnsigned(a).divide(bigUnsigned(b)).intValue();
            case "rem": return b == 0 ? a : big(a).remainder(big(b)).intValue();
            case "remu": return b == 0 ? a : bigUnsigned(a).remainder(bigUnsigned(b)).intValue();
            default: throw new AssertionError(name);
        }
    }

    private boolean mayBeUsed(int address, int size) {
        long number = Integer.toUnsignedLong(address) / 65536;
        long place = Integer.toUnsignedLong(address) % 65536;
        Thing thing = things.get((int) number);
        return thing != null && place + size <= thing.bytes.length && place % size == 0;
    }

    private int byteAt(int address) {
        return things.get(address >>> 16).bytes[address & 65535] & 255;
    }

    private void putByte(int address, int value) {
        things.get(address >>> 16).bytes[address & 65535] = (byte) value;
    }

    private int load(int address, int size) {
        if (!mayBeUsed(address, size)) {
            throw new Trap(2);
        }
        int value = 0;
        for (int i = 0; i < size; i++) {
            value += byteAt(address + i) << 8 * i;
        }
        return value;
    }

    private void store(int address, int size, int value) {
        if (!mayBeUsed(address, size)) {
            throw new Trap(2);
        }
        for (int i = 0; i < size; i++) {
            putByte(address + i, value >> 8 * i & 255);
        }
    }

    private void service(int number, int a10, int a11, int a12) {
        switch (number) {
            case 0: state = 2; break;
            case 1:
                refuseIf(!mayBeMade(a10));
                registers[10] = make(a10, false);
                break;
            case 2: dropLast(a10); break;
            case 3: registers[10] = mayBeMade(a10) ? make(a10, true) : 0; break;
            case 4: dropGiven(a10); break;
            case 5:
                if (written.size() < 4096) {
                    written.add(a10 & 255);
                }
                break;
            case 6: registers[10] = unread.isEmpty() ? -1 : unread.remove(); break;
            case 7: refuseIf(a10 >>> 16 != a11 >>> 16); break;
            case 8: copy(a10, a11, a12); break;
            default: throw new Trap(4);
        }
    }

    private static void refuseIf(boolean refused) {
        if (refused) {
            throw new Trap(4);
        }
    }

    /** Not of the face: for tests that look for such an object. */
    boolean isGiven(int number) {
        return things.containsKey(number) && things.get(number).given;
    }

    private boolean mayBeMade(int size) {
        return size >= 0 && size <= 4000 && made < 8000 && count(2) + (size + 3) / 4 * 4 <= 40000;
    }

    private int make(int size, boolean given) {
        made++;
        things.put(made, new Thing(new byte[size], given));
        return 65536 * made;
    }

    private void dropLast(int n) {
        refuseIf(n < 0 || n > count(3));
        for (int i = 0; i < n; i++) {
            int newest = 0;
            for (Map.Entry<Integer, Thing> e : things.entrySet()) {
                newest = e.getValue().given ? newest : e.getKey();
            }
            things.remove(newest);
        }
    }

    private void dropGiven(int address) {
        if (address != 0) {
            Thing thing = things.get(address >>> 16);
            refuseIf(address % 65536 != 0 || thing == null || !thing.given);
            things.remove(address >>> 16);
        }
    }

    private void copy(int to, int from, int n) {
        refuseIf(n < 0 || n > 4000);
        for (int i = 0; i < n; i++) {
            if (!mayBeUsed(from + i, 1) || !mayBeUsed(to + i, 1)) {
                throw new Trap(2);
            }
        }
        int[] read = new int[n];
        for (int i = 0; i < n; i++) {
            read[i] = byteAt(from + i);
        }
        for (int i = 0; i < n; i++) {
            putByte(to + i, read[i]);
        }
    }
}
