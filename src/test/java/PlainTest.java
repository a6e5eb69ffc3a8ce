import java.util.Random;
import java.util.function.LongSupplier;

/** All calls in many orders, each answer beside that of the plain machine. */
public final class PlainTest {
    private static final int CALLS = 512;
    // Few registers, so that instructions meet what others made: those of services, and some that they leave alone.
    private static final int[] REGISTERS = {0, 5, 6, 7, 8, 10, 11, 12, 17};
    private static final int[] VALUES = {
        0, 1, -1, 2, 3, 4, 5, 7, 8, 31, 32, 255, 256, 3996, 3999, 4000, 4001, 40000, 65535, 65536, 65537, 131072,
        131076, 196608, 262146, 327680 + 3996, Integer.MIN_VALUE, Integer.MAX_VALUE, -65536, -4,
    };

    private final Due due;
    private final Random random;
    private final String name;
    private final RvMachine machine = new RvMachine();
    private final Plain plain = new Plain();
    private int calls;

    private PlainTest(Due due, String name, int seed) {
        this.due = due;
        this.name = name + " " + seed;
        random = new Random(seed);
    }

    public static void main(String[] args) {
        int times = args.length > 0 ? Integer.parseInt(args[0]) : 1;
        Due due = new Due("PlainTest");
        for (int seed = 0; seed < 600 * times; seed++) {
            new PlainTest(due, "any calls", seed).anyCalls();
        }
        for (int seed = 0; seed < 300 * times; seed++) {
            new PlainTest(due, "services", seed).services();
        }
        for (int seed = 0; seed < 120 * times; seed++) {
            new PlainTest(due, "a loop of services", seed).loopOfServices();
        }
        due.end();
    }

    private static String outcome(LongSupplier call) {
        try {
            return "" + call.getAsLong();
        } catch (RuntimeException e) {
            return e.getClass().getSimpleName();
        }
    }

    private void same(String what, LongSupplier got, LongSupplier want) {
        calls++;
        due.isSame(name + ", call " + calls + ", " + what, outcome(got), outcome(want));
    }

    private int oneOf(int... values) {
        return values[random.nextInt(values.length)];
    }

    private int anyValue() {
        switch (random.nextInt(4)) {
            case 0: return random.nextInt();
            case 1: return random.nextInt(65) - 16;
            case 2: return (1 + random.nextInt(6)) * 65536 + random.nextInt(24);
            default: return oneOf(VALUES);
        }
    }

    private int anyInstruction() {
        if (random.nextInt(4) == 0) {
            return oneOf(Asm.ECALL, Asm.li(17, random.nextInt(10)), Asm.li(10, random.nextInt(40) - 4),
                Asm.li(12, random.nextInt(20) - 2), Asm.lui(10, random.nextInt(6) << 4),
                Asm.lui(11, random.nextInt(6) << 4));
        }
        Plain.Row row = Plain.rows().get(random.nextInt(Plain.rows().size()));
        int w = random.nextInt();
        // Short offsets, most of them by whole words, so that jumps and branches stay near and memory is met.
        if (random.nextInt(8) != 0) {
            w &= 0x01c00c7f | (random.nextInt(4) == 0 ? 0x01200380 : 0);
        }
        w = w & ~0x000f8f80 | oneOf(REGISTERS) << 15 | oneOf(REGISTERS) << 7;
        if (random.nextInt(2) == 0) {
            w = w & ~0x01f00000 | oneOf(REGISTERS) << 20;
        }
        w = w & ~row.mask() | row.bits();
        switch (random.nextInt(40)) {
            case 0: return w ^ 1 << random.nextInt(32);
            case 1: return w ^ (1 + random.nextInt(7)) << 12;
            default: return w;
        }
    }

    private void word(int w) {
        same("word(" + w + ")", () -> machine.word(w), () -> plain.word(w));
    }

    private void begin(int k) {
        same("begin(" + k + ")", () -> nothingOf(() -> machine.begin(k)), () -> nothingOf(() -> plain.begin(k)));
    }

    private static long nothingOf(Runnable call) {
        call.run();
        return 0;
    }

    private void run(int n) {
        same("run(" + n + ")", () -> machine.run(n), () -> plain.run(n));
    }

    private void set(int k, int v) {
        same("set(" + k + ", " + v + ")", () -> machine.set(k, v), () -> plain.set(k, v));
    }

    private void anyCalls() {
        for (int i = 0; i < 40; i++) {
            word(anyInstruction());
        }
        begin(random.nextInt(20));
        while (calls < CALLS) {
            anyCall();
        }
    }

    private void anyCall() {
        switch (random.nextInt(16)) {
            case 0: word(anyInstruction()); break;
            case 1: anyChange(); break;
            case 2:
                if (plain.state() != 1 || random.nextInt(20) == 0) {
                    begin(random.nextInt(30) == 0 ? anyValue() : random.nextInt(plain.count(0)));
                }
                break;
            case 3: case 4: case 5: run(random.nextInt(30) == 0 ? anyValue() : 1 + random.nextInt(12)); break;
            case 6: same("state()", machine::state, plain::state); break;
            case 7: anyRegister(random.nextInt(30) == 0 ? anyValue() : random.nextInt(33)); break;
            case 8: case 9: case 10:
                set(random.nextInt(30) == 0 ? anyValue() : oneOf(REGISTERS), anyValue());
                break;
            case 11: anyService(); break;
            case 12: anyPeek(random.nextInt(3) == 0 ? plain.register(oneOf(REGISTERS)) : anyValue()); break;
            case 13: anyInput(random.nextLong(), random.nextInt(20) == 0 ? anyValue() : random.nextInt(9)); break;
            case 14: same("take()", machine::take, plain::take); break;
            default: anyCount(random.nextInt(30) == 0 ? anyValue() : random.nextInt(7)); break;
        }
    }

    private void anyChange() {
        int k = random.nextInt(30) == 0 ? anyValue() : random.nextInt(plain.count(0));
        int w = anyInstruction();
        same("change(" + k + ", " + w + ")", () -> machine.change(k, w), () -> plain.change(k, w));
    }

    private void anyRegister(int k) {
        same("register(" + k + ")", () -> machine.register(k), () -> plain.register(k));
    }

    private void anyPeek(int address) {
        same("peek(" + address + ")", () -> machine.peek(address), () -> plain.peek(address));
    }

    private void anyInput(long w, int n) {
        same("input(" + w + ", " + n + ")", () -> machine.input(w, n), () -> plain.input(w, n));
    }

    private void anyCount(int what) {
        same("count(" + what + ")", () -> machine.count(what), () -> plain.count(what));
    }

    // The next word becomes an ECALL, with registers that many services allow.
    private void anyService() {
        int k = plain.register(32) >>> 2;
        set(17, random.nextInt(10) == 0 ? random.nextInt(12) - 1 : oneOf(1, 1, 2, 3, 3, 4, 5, 6, 7, 8, 8));
        set(10, plain.register(17) == 2 ? random.nextInt(3) : anyValue());
        set(11, anyValue());
        set(12, random.nextInt(12));
        same("change(" + k + ", ECALL)", () -> machine.change(k, Asm.ECALL), () -> plain.change(k, Asm.ECALL));
        run(1);
    }

    // Objects come, are written, copied and go in one run; it begins again when one of that is refused.
    private void services() {
        for (int w : new int[] {Asm.ECALL, Asm.beq(6, 0, 8), Asm.sb(12, 0, 6), Asm.jal(0, -12)}) {
            word(w);
        }
        begin(0);
        while (calls < CALLS - 10) {
            if (plain.state() != 1) {
                begin(0);
            }
            int service = oneOf(1, 1, 3, 3, 2, 4, 7, 8, 8);
            set(17, service);
            set(10, firstFor(service));
            set(11, service == 7 ? plain.register(10) ^ random.nextInt(9) : anyAddress());
            set(12, random.nextInt(random.nextInt(50) == 0 ? 4100 : 60));
            set(6, service == 2 || service == 4 ? 0 : anyAddress());
            run(plain.register(6) == 0 ? 3 : 4);
            anyPeek(anyAddress());
            anyCount(1 + random.nextInt(3));
        }
    }

    /** One that may be read if some tries find it, else 0. */
    private int anyAddress() {
        for (int i = 0; i < 20; i++) {
            int address = random.nextInt(plain.count(1) + 1) << 16 | oneOf(0, 0, 0, 1, 2, 3, 4, 30, 60, 900);
            if (plain.peek(address) != -1) {
                return address;
            }
        }
        return 0;
    }

    private int firstFor(int service) {
        switch (service) {
            case 1: case 3: return oneOf(1, 3, 60, 61, 64, 100, 1000, 3001, 4000);
            case 2: return random.nextInt(Math.min(3, plain.count(3)) + 1);
            case 4:
                int address = anyAddress() & -65536;
                return plain.isGiven(address >>> 16) || random.nextInt(9) == 0 ? address : 0;
            default: return anyAddress();
        }
    }

    // Services that seldom trap, again and again: the limits of objects, bytes, input and what is written are met.
    private void loopOfServices() {
        int steps = 1 + random.nextInt(6);
        for (int i = 0; i < steps; i++) {
            word(oneOf(Asm.add(10, 5, 0), Asm.add(10, 6, 0), Asm.li(10, 0), Asm.li(10, 1), Asm.NOP));
            word(Asm.li(17, oneOf(1, 2, 3, 3, 4, 5, 5, 6)));
            word(Asm.ECALL);
            word(oneOf(Asm.ECALL, Asm.NOP, Asm.add(6, 10, 0), Asm.addi(5, 5, 1), Asm.addi(5, 5, -1)));
        }
        word(Asm.jal(0, -16 * steps));
        for (int i = 0; i < 4; i++) {
            begin(0);
            set(5, oneOf(0, 1, 2, 3, 4, 5, 100, 1000, 1333, 1999, 2001, 3997, 4000));
            for (int k = 0; k < 4 && plain.state() == 1; k++) {
                run(oneOf(1, 100, 2500, 10000, 10000));
                lookAround();
            }
        }
    }

    private void lookAround() {
        same("state()", machine::state, plain::state);
        for (int what = 0; what <= 6; what++) {
            anyCount(what);
        }
        anyRegister(32);
        anyRegister(10);
        anyPeek(plain.count(1) << 16);
        anyInput(random.nextLong(), 8);
        same("take()", machine::take, plain::take);
    }
}
