import java.util.ArrayList;
import java.util.List;
import java.util.Random;

/** Objects that come and go in many orders keep their own bytes: programs beside a plain model of them. */
public final class ObjectsTest {
    // Words and the calls behind them stay under the 512 calls of an object.
    private static final int MOST_WORDS = 420;

    private final Due due;
    private final Random random;
    private final RvMachine machine = new RvMachine();
    private final List<byte[]> objects = new ArrayList<>();
    private final List<Integer> last = new ArrayList<>();
    private final List<Integer> given = new ArrayList<>();
    private final List<Integer> touched = new ArrayList<>();
    private int bytes;
    private int words;

    private ObjectsTest(Due due, int seed) {
        this.due = due;
        random = new Random(seed);
        objects.add(null);
    }

    public static void main(String[] args) {
        Due due = new Due("ObjectsTest");
        for (int seed = 0; seed < 600; seed++) {
            ObjectsTest test = new ObjectsTest(due, seed);
            test.writeProgram();
            test.lookAtMachine("program " + seed);
        }
        lookAtQueue(due, 4000);
        lookAtQueue(due, 2500);
        lookAtQueue(due, 4);
        due.end();
    }

    private void writeProgram() {
        while (words < MOST_WORDS - 12) {
            switch (random.nextInt(6)) {
                case 0:
                case 1: make(); break;
                case 2: drop(); break;
                case 3:
                case 4: storeWord(); break;
                default: copy(); break;
            }
        }
    }

    private void word(int w) {
        machine.word(w);
        words++;
    }

    private void loadConstant(int register, int value) {
        word(Asm.lui(register, value + 0x800 >>> 12));
        word(Asm.addi(register, register, value));
    }

    private void service(int number) {
        word(Asm.li(Asm.A7, number));
        word(Asm.ECALL);
    }

    private void make() {
        int size = random.nextInt(3) == 0 ? random.nextInt(20) : random.nextInt(4001);
        int counted = (size + 3) / 4 * 4;
        boolean fits = bytes + counted <= 40000;
        boolean isGiven = !fits || random.nextBoolean();
        loadConstant(Asm.A0, size);
        service(isGiven ? 3 : 1);
        if (fits) {
            bytes += counted;
            (isGiven ? given : last).add(objects.size());
            touched.add((objects.size() << 16) + random.nextInt(size + 1));
            objects.add(new byte[size]);
        }
    }

    private void drop() {
        if (random.nextBoolean()) {
            int n = random.nextInt(Math.min(3, last.size()) + 1);
            word(Asm.li(Asm.A0, n));
            service(2);
            for (int i = 0; i < n; i++) {
                forget(last.remove(last.size() - 1));
            }
        } else if (!given.isEmpty()) {
            int number = given.remove(random.nextInt(given.size()));
            word(Asm.lui(Asm.A0, number << 4));
            service(4);
            forget(number);
        }
    }

    private void forget(int number) {
        bytes -= (objects.get(number).length + 3) / 4 * 4;
        objects.set(number, null);
    }

    /** An object that is there with at least so many bytes; 0 if none was found. */
    private int findObject(int size) {
        for (int i = 0; i < 20; i++) {
            int number = random.nextInt(objects.size());
            if (objects.get(number) != null && objects.get(number).length >= size) {
                return number;
            }
        }
        return 0;
    }

    private void storeWord() {
        int number = findObject(4);
        if (number == 0) {
            return;
        }
        byte[] object = objects.get(number);
        int place = random.nextInt(3) == 0 ? (object.length - 4) / 4 * 4 : random.nextInt(object.length / 4) * 4;
        int value = random.nextInt();
        loadConstant(5, value);
        loadConstant(6, (number << 16) + place);
        word(Asm.sw(5, 0, 6));
        for (int i = 0; i < 4; i++) {
            object[place + i] = (byte) (value >> 8 * i);
        }
        touched.add((number << 16) + place + random.nextInt(4));
    }

    private void copy() {
        int from = findObject(1);
        int to = random.nextInt(3) == 0 ? from : findObject(1);
        if (from == 0 || to == 0) {
            return;
        }
        byte[] source = objects.get(from);
        byte[] target = objects.get(to);
        int n = 1 + random.nextInt(Math.min(source.length, target.length));
        int fromPlace = random.nextInt(source.length - n + 1);
        int toPlace = random.nextInt(target.length - n + 1);
        loadConstant(Asm.A0, (to << 16) + toPlace);
        loadConstant(Asm.A1, (from << 16) + fromPlace);
        loadConstant(Asm.A2, n);
        service(8);
        byte[] read = new byte[n];
        System.arraycopy(source, fromPlace, read, 0, n);
        System.arraycopy(read, 0, target, toPlace, n);
        touched.add((to << 16) + toPlace + random.nextInt(n));
    }

    private void lookAtMachine(String what) {
        machine.begin(0);
        due.is(what + ": run", machine.run(words + 1), words);
        due.is(what + ": state()", machine.state(), 13);
        due.is(what + ": count(1)", machine.count(1), objects.size() - 1);
        due.is(what + ": count(2)", machine.count(2), bytes);
        due.is(what + ": count(3)", machine.count(3), last.size());
        for (int i = 0; i < touched.size() && i < 80; i++) {
            int address = touched.get(touched.size() - 1 - i);
            due.is(what + ": peek(" + address + ")", machine.peek(address), modelPeek(address));
        }
    }

    private int modelPeek(int address) {
        byte[] object = objects.get(address >>> 16);
        int place = address & 0xffff;
        return object == null || place >= object.length ? -1 : object[place] & 0xff;
    }

    // Given objects go in the order in which they came, ten at a time there, each with its own address in its
    // first and last word; the program stops itself at EBREAK if one has lost them or is not 0 when new.
    private static void lookAtQueue(Due due, int size) {
        int stop = 22;
        int[] program = {
            Asm.lui(28, size + 0x800 >>> 12), Asm.addi(28, 28, size),
            Asm.addi(29, 28, -4), Asm.lui(30, 9 << 4),
            Asm.add(Asm.A0, 28, 0), Asm.li(Asm.A7, 3), Asm.ECALL,
            Asm.beq(Asm.A0, 0, 4 * (stop + 1 - 7)),
            Asm.add(6, Asm.A0, 29),
            Asm.lw(5, 0, 6), Asm.bne(5, 0, 4 * (stop - 10)),
            Asm.sw(Asm.A0, 0, 6), Asm.sw(Asm.A0, 0, Asm.A0),
            Asm.r(0x20, 0, Asm.A0, Asm.A0, 30), Asm.branch(5, 0, Asm.A0, 4 * (4 - 14)),
            Asm.lw(5, 0, Asm.A0), Asm.bne(5, Asm.A0, 4 * (stop - 16)),
            Asm.add(6, Asm.A0, 29), Asm.lw(5, 0, 6), Asm.bne(5, Asm.A0, 4 * (stop - 19)),
            Asm.li(Asm.A7, 4), Asm.jal(0, 4 * (24 - 21)),
            Asm.EBREAK, Asm.jal(0, 0),
            Asm.ECALL, Asm.jal(0, 4 * (4 - 25)),
        };
        RvMachine m = Asm.begun(program);
        for (int i = 0; i < 20; i++) {
            m.run(10000);
        }
        due.is("queue of " + size + ": state()", m.state(), 1);
        due.is("queue of " + size + ": register(32)", m.register(32), 4 * (stop + 1));
        due.is("queue of " + size + ": count(1)", m.count(1), 8000);
        due.is("queue of " + size + ": count(2)", m.count(2), 9 * size);
    }
}
