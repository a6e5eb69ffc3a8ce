import java.util.Arrays;

/** The edges of words, registers, addresses and objects that the document's terms name, and of promise 9. */
public final class MemoryEdgesTest {
    private static final int MIN = Integer.MIN_VALUE;
    private static final int MAX = Integer.MAX_VALUE;
    private static final int LAST = 1;
    private static final int GIVEN = 3;

    public static void main(String[] args) {
        Due due = new Due("MemoryEdgesTest");
        wordsAddresses(due);
        registerZero(due);
        numbersFromOneOn(due);
        whollyInside(due);
        thatIsThere(due);
        multipleOfSize(due);
        lowestByteFirst(due);
        sizes(due);
        atFirstZero(due);
        mostMade(due);
        mostMadeThoughGone(due);
        mostBytes(due);
        bytesCountedUpToFour(due);
        bytesAtOnce(due);
        peekEdges(due);
        due.end();
    }

    private static void wordsAddresses(Due due) {
        due.about("WORDS 0, 1, .. are instructions (word k at address 4 k)");
        for (int k = 0; k <= 4; k++) {
            RvMachine m = Asm.begun(Asm.li(5, 10), Asm.li(5, 11), Asm.li(5, 12), Asm.jalr(0, 6, 0));
            m.begin(3);
            m.set(6, 4 * k);
            due.is("the jump to " + 4 * k, m.run(1), 1);
            due.is("register(32)", m.register(32), 4 * k);
            due.is("the word there", m.run(1), k < 4 ? 1 : 0);
            due.is("what it did", m.register(5), k < 3 ? 10 + k : 0);
            due.is("state()", m.state(), k < 4 ? 1 : 13);
        }
    }

    /** A machine whose word 1 is done by does; it has made an object, which is at 65536. */
    private static RvMachine withObject(int service, int size) {
        RvMachine m = Asm.begun(Asm.ECALL, Asm.NOP, Asm.jal(0, -4));
        m.set(Asm.A7, service);
        m.set(Asm.A0, size);
        m.run(1);
        return m;
    }

    /** Does one word with t1 = address; whether it was done. */
    private static boolean does(RvMachine m, int word, int address) {
        m.change(1, word);
        m.set(6, address);
        return m.run(2) == 2;
    }

    private static void registerZero(Due due) {
        due.about("REGISTERS 0 to 31 (0 is always 0)");
        RvMachine m = withObject(GIVEN, 4);
        m.set(5, -1);
        does(m, Asm.sw(5, 0, 6), 65536);
        for (int kind : new int[] {0, 1, 2, 4, 5}) {
            due.isTrue("load " + kind, does(m, Asm.load(kind, 0, 0, 6), 65536));
            due.is("register(0)", m.register(0), 0);
        }
        int[] words = {
            Asm.lui(0, 0xfffff), Asm.auipc(0, 1), Asm.jal(0, 4), Asm.jalr(0, 6, 0), Asm.addi(0, 0, 5),
            Asm.i(0x13, 2, 0, 6, 9), Asm.i(0x13, 3, 0, 6, 9), Asm.i(0x13, 4, 0, 6, 1), Asm.i(0x13, 6, 0, 6, 1),
            Asm.i(0x13, 7, 0, 6, -1), Asm.slli(0, 6, 1), Asm.i(0x13, 5, 0, 6, 1), Asm.i(0x13, 5, 0, 6, 0x401),
        };
        for (int w : words) {
            due.isTrue(Integer.toHexString(w), does(m, w, 8));
            due.is("register(0) after " + Integer.toHexString(w), m.register(0), 0);
        }
        for (int kind = 0; kind < 8; kind++) {
            for (int top = 0; top < 2; top++) {
                due.isTrue("kind " + kind, does(m, Asm.r(top, kind, 0, 6, 5), 9));
                due.is("register(0) after kind " + kind + " of " + top, m.register(0), 0);
            }
        }
        m.set(7, 3);
        due.isTrue("add t2, zero, zero", does(m, Asm.add(7, 0, 0), 1));
        due.is("zero and zero", m.register(7), 0);
        due.isThrown("set(0, 1)", IndexOutOfBoundsException.class, () -> m.set(0, 1));
        due.is("register(0)", m.register(0), 0);
    }

    private static void numbersFromOneOn(Due due) {
        due.about("65536 times an OBJECT's number (from 1 on, as they are made) and a place in it");
        RvMachine m = Asm.forServices();
        due.is("the first", Asm.call(m, LAST, 8), 0x10000);
        due.is("the second", Asm.call(m, GIVEN, 8), 0x20000);
        due.is("one that may not be", Asm.call(m, GIVEN, 4001), 0);
        due.is("the third", Asm.call(m, GIVEN, 0), 0x30000);
        Asm.call(m, 2, 1);
        Asm.call(m, 4, 0x30000);
        due.is("the fourth when two are gone", Asm.call(m, LAST, 8), 0x40000);
        due.is("count(1)", m.count(1), 4);
        int[][] there = {{0, -1}, {7, -1}, {0xffff, -1}, {0x10000, -1}, {0x20000, 0}, {0x20007, 0}, {0x20008, -1},
            {0x30000, -1}, {0x3ffff, -1}, {0x40000, 0}, {0x40007, 0}, {0x40008, -1}, {0x50000, -1}};
        for (int[] row : there) {
            due.is("peek(" + row[0] + ")", m.peek(row[0]), row[1]);
        }
    }

    // Objects of 8 bytes before and behind it would show a byte that is written outside.
    private static void whollyInside(Due due) {
        due.about("one whose place and bytes are wholly in an OBJECT");
        for (int size : new int[] {0, 1, 2, 3, 4, 5, 6, 7, 8, 9, 3997, 3998, 3999, 4000}) {
            for (int kind = 0; kind <= 2; kind++) {
                int bytes = 1 << kind;
                int inside = size / bytes * bytes - bytes;
                for (int place : new int[] {inside, inside + bytes, inside + 2 * bytes, 65536 - bytes}) {
                    if (place >= 0) {
                        lookAtPlace(due, size, kind, place);
                    }
                }
            }
        }
    }

    private static void lookAtPlace(Due due, int size, int kind, int place) {
        int bytes = 1 << kind;
        String what = bytes + " bytes at " + place + " of " + size;
        boolean inside = place + bytes <= size;
        RvMachine m = Asm.begun(Asm.ECALL, Asm.jal(0, -4), Asm.store(kind, 5, 0, 6), Asm.load(kind, 7, 0, 6));
        Asm.call(m, LAST, 8);
        Asm.call(m, LAST, size);
        Asm.call(m, LAST, 8);
        m.change(0, Asm.jal(0, 8));
        m.set(5, -1);
        m.set(6, 0x20000 + place);
        m.run(1);
        int[] addresses = {0x10000, 0x10004, 0x10007, 0x20000 + Math.max(0, size - 3), 0x20000 + Math.max(0, size - 2),
            0x20000 + Math.max(0, size - 1), 0x20000 + size, 0x30000, 0x30003, 0x30007};
        if (inside) {
            due.is("store of " + what, m.run(1), 1);
            for (int i = 0; i < bytes; i++) {
                due.is("peek of " + what, m.peek(0x20000 + place + i), 255);
            }
            due.is("peek before it", m.peek(0x10007), 0);
            due.is("peek behind it", m.peek(0x30000), 0);
            due.is("load of " + what, m.run(1), 1);
            due.is("what it reads", m.register(7), -1);
        } else {
            Edge.trapped(due, "store of " + what, m, 2, addresses);
            RvMachine load = Asm.begun(Asm.ECALL, Asm.load(kind, 7, 0, 6));
            Asm.setForService(load, LAST, size, 0, 0);
            load.run(1);
            load.set(6, 0x10000 + place);
            load.set(7, 77);
            Edge.trapped(due, "load of " + what, load, 2);
        }
    }

    private static void thatIsThere(Due due) {
        due.about("in an OBJECT that is there");
        // A LAST one that stays, a LAST one and a GIVEN one that go, one that was never made, none, a negative one.
        int[][] rows = {{0x10000, 1}, {0x20000, 0}, {0x30000, 0}, {0x40000, 0}, {0, 0}, {MIN, 0}, {-65536, 0},
            {0x7fff0000, 0}};
        for (int[] row : rows) {
            for (int word : new int[] {Asm.lw(7, 0, 6), Asm.sw(7, 0, 6), Asm.load(4, 7, 3, 6), Asm.sb(7, 3, 6)}) {
                String what = Integer.toHexString(word) + " at " + row[0];
                RvMachine m = Asm.begun(Asm.ECALL, Asm.jal(0, -4), word);
                Asm.call(m, LAST, 4);
                Asm.call(m, LAST, 4);
                Asm.call(m, GIVEN, 4);
                Asm.call(m, 2, 1);
                Asm.call(m, 4, 0x30000);
                m.change(0, Asm.jal(0, 8));
                m.set(6, row[0]);
                m.set(7, 55);
                m.run(1);
                if (row[1] == 1) {
                    due.is(what, m.run(1), 1);
                } else {
                    Edge.trapped(due, what, m, 2, 0x10000, 0x10003, 0x20000, 0x30000);
                }
            }
        }
        RvMachine before = withObject(GIVEN, 4);
        before.begin(1);
        due.isTrue("an object of the run before", !does(before, Asm.lw(7, 0, 6), 0x10000));
        due.is("state()", before.state(), 12);
    }

    private static void multipleOfSize(Due due) {
        due.about("at a multiple of their size");
        for (int place = 0; place <= 8; place++) {
            for (int kind : new int[] {0, 1, 2, 4, 5}) {
                int bytes = 1 << (kind & 3);
                RvMachine m = withObject(GIVEN, 12);
                due.is("load " + kind + " at " + place, does(m, Asm.load(kind, 5, 0, 6), 65536 + place) ? 1 : 0,
                    place % bytes == 0 ? 1 : 0);
                due.is("state()", m.state(), place % bytes == 0 ? 1 : 12);
                if (kind <= 2) {
                    RvMachine s = withObject(GIVEN, 12);
                    s.set(5, -1);
                    boolean stored = does(s, Asm.store(kind, 5, 0, 6), 65536 + place);
                    due.is("store " + kind + " at " + place, stored ? 1 : 0, place % bytes == 0 ? 1 : 0);
                    for (int i = 0; i < 12; i++) {
                        due.is("peek(" + i + ")", s.peek(65536 + i),
                            stored && i >= place && i < place + bytes ? 255 : 0);
                    }
                }
            }
        }
        RvMachine m = withObject(GIVEN, 12);
        due.isTrue("the sum counts, not its parts", does(m, Asm.lw(5, -1, 6), 65536 + 5));
    }

    private static void lowestByteFirst(Due due) {
        due.about("may be read and written, the lowest byte first");
        RvMachine m = withObject(LAST, 8);
        m.set(5, 0x807f01fe);
        does(m, Asm.sw(5, 0, 6), 65536);
        does(m, Asm.store(1, 5, 4, 6), 65536);
        does(m, Asm.sb(5, 7, 6), 65536);
        int[] bytes = {0xfe, 0x01, 0x7f, 0x80, 0xfe, 0x01, 0, 0xfe};
        for (int i = 0; i < 8; i++) {
            due.is("peek(" + i + ")", m.peek(65536 + i), bytes[i]);
        }
        int[][] loads = {{0, 0, -2}, {0, 1, 1}, {0, 2, 127}, {0, 3, -128}, {4, 0, 254}, {4, 3, 128}, {1, 0, 0x01fe},
            {1, 2, 0xffff807f}, {5, 2, 0x807f}, {2, 0, 0x807f01fe}, {2, 4, 0xfe0001fe}};
        for (int[] row : loads) {
            does(m, Asm.load(row[0], 7, row[1], 6), 65536);
            due.is("load " + row[0] + " at " + row[1], m.register(7), row[2]);
        }
    }

    private static void sizes(Due due) {
        due.about("OBJECTS have 0 to 4000 bytes");
        for (int service : new int[] {LAST, GIVEN}) {
            for (int size : new int[] {0, 1, 2, 3, 4, 5, 3996, 3997, 3998, 3999, 4000}) {
                RvMachine m = Asm.forServices();
                String what = "service " + service + " of " + size;
                due.is(what, Asm.call(m, service, size), 0x10000);
                due.is(what + ": count(1)", m.count(1), 1);
                due.is(what + ": count(2)", m.count(2), (size + 3) / 4 * 4);
                due.is(what + ": count(3)", m.count(3), service == LAST ? 1 : 0);
                due.is(what + ": its first byte", m.peek(0x10000), size == 0 ? -1 : 0);
                due.is(what + ": its last byte", m.peek(0x10000 + size - 1), size == 0 ? -1 : 0);
                due.is(what + ": behind it", m.peek(0x10000 + size), -1);
            }
        }
        for (int size : new int[] {-1, -4, 4001, 4004, 65536, MIN, MAX, MAX - 3}) {
            // The twin does service 7, which changes nothing.
            RvMachine m = Asm.forServices();
            RvMachine twin = Asm.forServices();
            due.is("service 3 of " + size, Asm.call(m, GIVEN, size), 0);
            Asm.call(twin, 7, 0);
            m.set(Asm.A7, 7);
            due.isSame("service 3 of " + size, Seen.now(m, 0x10000), Seen.now(twin, 0x10000));
            Edge.trappedService(due, m, 4, new int[] {LAST, size, 0, 0}, 0x10000);
        }
    }

    private static void atFirstZero(Due due) {
        due.about("at first 0");
        RvMachine m = Asm.begun(Asm.ECALL, Asm.jal(0, -4), Asm.sw(5, 0, 6), Asm.addi(6, 6, 4), Asm.bne(6, 7, -8),
            Asm.jal(0, -20));
        for (int round = 0; round < 5; round++) {
            int service = round % 2 == 0 ? LAST : GIVEN;
            int address = Asm.call(m, service, 36);
            for (int i = 0; i < 36; i++) {
                due.is("peek(" + i + ") in round " + round, m.peek(address + i), 0);
            }
            fill(m, address, 36);
            due.is("its last byte", m.peek(address + 35), 255);
            if (round == 1) {
                Asm.call(m, 4, address);
            } else if (round == 2) {
                Asm.call(m, 2, 1);
            } else {
                m.begin(0);
            }
        }
    }

    /** Writes -1 into an object's words, with the program of atFirstZero. */
    private static void fill(RvMachine m, int address, int size) {
        m.change(0, Asm.jal(0, 8));
        m.set(5, -1);
        m.set(6, address);
        m.set(7, address + size);
        m.run(1 + 3 * size / 4);
        m.change(0, Asm.ECALL);
        m.run(1);
    }

    /** A machine that has made so many objects of a size, and stands at an ECALL again. */
    private static RvMachine withMany(int n, int service, int size) {
        RvMachine m = Asm.begun(Asm.ECALL, Asm.jal(0, 4), Asm.add(Asm.A0, 5, 0), Asm.jal(0, -12));
        m.set(Asm.A7, service);
        m.set(Asm.A0, size);
        m.set(5, size);
        for (int i = 0; i < 16; i++) {
            m.run(4 * (n / 16));
        }
        if (n % 16 > 0) {
            m.run(4 * (n % 16));
        }
        m.change(1, Asm.jal(0, -4));
        return m;
    }

    private static void mostMade(Due due) {
        due.about("at most 8000 are ever made");
        for (int service : new int[] {LAST, GIVEN}) {
            for (int size : new int[] {0, 1, 4}) {
                String what = "service " + service + " of " + size;
                RvMachine m = withMany(7999, service, size);
                due.is(what + ": count(1)", m.count(1), 7999);
                due.is(what + ": one that may not be", Asm.call(m, GIVEN, 4001), 0);
                due.is(what + ": number 8000", Asm.call(m, service, size), 8000 << 16);
                due.is(what + ": count(1)", m.count(1), 8000);
                due.is(what + ": count(2)", m.count(2), 8000 * ((size + 3) / 4 * 4));
                due.is(what + ": count(3)", m.count(3), service == LAST ? 8000 : 0);
                due.is(what + ": the last byte", m.peek((8000 << 16) + size - 1), size == 0 ? -1 : 0);
                due.is(what + ": a given one more", Asm.call(m, GIVEN, size), 0);
                due.is(what + ": count(1)", m.count(1), 8000);
                due.is(what + ": count(2)", m.count(2), 8000 * ((size + 3) / 4 * 4));
                due.is(what + ": state()", m.state(), 1);
                Edge.trappedService(due, m, 4, new int[] {LAST, 0, 0, 0}, 8000 << 16, 8001 << 16);
                RvMachine dropped = withMany(8000, service, size);
                Asm.call(dropped, service == LAST ? 2 : 4, service == LAST ? 8000 : 1 << 16);
                Edge.trappedService(due, dropped, 4, new int[] {LAST, 0, 0, 0}, 8000 << 16, 8001 << 16);
            }
        }
    }

    private static void mostMadeThoughGone(Due due) {
        due.about("at most 8000 are ever made");
        RvMachine m = Asm.begun(Asm.ECALL, Asm.jal(0, 4), Asm.li(Asm.A7, 4), Asm.ECALL, Asm.li(Asm.A7, 3),
            Asm.li(Asm.A0, 4), Asm.jal(0, -24));
        m.set(Asm.A7, 3);
        m.set(Asm.A0, 4);
        for (int i = 0; i < 8; i++) {
            m.run(7 * 1000);
        }
        due.is("count(1)", m.count(1), 8000);
        due.is("count(2)", m.count(2), 0);
        due.is("one more", m.run(1), 1);
        due.is("its address", m.register(Asm.A0), 0);
        due.is("count(1)", m.count(1), 8000);
        due.is("count(2)", m.count(2), 0);
        m.begin(0);
        m.set(Asm.A7, 3);
        m.run(1);
        due.is("the first of the next run", m.register(Asm.A0), 0x10000);
    }

    /** A machine with objects of these sizes, LAST and GIVEN in turn. */
    private static RvMachine withSizes(int... sizes) {
        RvMachine m = Asm.forServices();
        for (int i = 0; i < sizes.length; i++) {
            Asm.call(m, i % 2 == 0 ? LAST : GIVEN, sizes[i]);
        }
        return m;
    }

    private static int[] repeated(int size, int n, int more) {
        int[] sizes = new int[n + 1];
        Arrays.fill(sizes, size);
        sizes[n] = more;
        return sizes;
    }

    /** Whether one more of a size may be made, by either service. */
    private static void lookAtOneMore(Due due, String what, int[] sizes, int size, boolean may) {
        RvMachine given = withSizes(sizes);
        int number = sizes.length + 1;
        int bytes = given.count(2);
        due.is(what + ", a given one of " + size, Asm.call(given, GIVEN, size), may ? number << 16 : 0);
        due.is("count(1)", given.count(1), may ? number : number - 1);
        due.is("count(2)", given.count(2), may ? bytes + (size + 3) / 4 * 4 : bytes);
        due.is("state()", given.state(), 1);
        RvMachine last = withSizes(sizes);
        if (may) {
            due.is(what + ", a last one of " + size, Asm.call(last, LAST, size), number << 16);
        } else {
            Edge.trappedService(due, last, 4, new int[] {LAST, size, 0, 0}, 1 << 16, number << 16);
        }
    }

    private static void mostBytes(Due due) {
        due.about("at most 40000 bytes are there at once");
        for (int size : new int[] {3996, 4000}) {
            lookAtOneMore(due, "with 36000 bytes", repeated(4000, 8, 4000), size, true);
        }
        lookAtOneMore(due, "with 39992 bytes", repeated(4000, 9, 3992), 4, true);
        lookAtOneMore(due, "with 39992 bytes", repeated(4000, 9, 3992), 8, true);
        lookAtOneMore(due, "with 39992 bytes", repeated(4000, 9, 3992), 12, false);
        lookAtOneMore(due, "with 39996 bytes", repeated(4000, 9, 3996), 4, true);
        lookAtOneMore(due, "with 39996 bytes", repeated(4000, 9, 3996), 8, false);
        lookAtOneMore(due, "with 40000 bytes", repeated(4000, 9, 4000), 4, false);
        lookAtOneMore(due, "with 40000 bytes", repeated(4000, 9, 4000), 4000, false);
        lookAtOneMore(due, "with 40000 bytes", repeated(4000, 9, 4000), 0, true);
    }

    private static void bytesCountedUpToFour(Due due) {
        due.about("bytes (each counted up to 4)");
        for (int size = 0; size <= 9; size++) {
            due.is("count(2) of one of " + size, withSizes(size).count(2), (size + 3) / 4 * 4);
            due.is("count(2) of two of " + size, withSizes(size, size).count(2), (size + 3) / 4 * 8);
        }
        for (int size = 1; size <= 4; size++) {
            lookAtOneMore(due, "with 39996 bytes", repeated(4000, 9, 3996), size, true);
            lookAtOneMore(due, "with 39996 bytes by 3993", repeated(4000, 9, 3993), size, true);
            lookAtOneMore(due, "with 40000 bytes by 3997", repeated(3997, 9, 3997), size, false);
            lookAtOneMore(due, "with 40000 bytes by 3999", repeated(4000, 9, 3999), size, false);
        }
        lookAtOneMore(due, "with 39996 bytes", repeated(4000, 9, 3996), 5, false);
        lookAtOneMore(due, "with 36000 bytes by 3997", repeated(3997, 8, 3997), 3997, true);
        lookAtOneMore(due, "with 36004 bytes", repeated(4000, 9, 1), 3996, true);
        lookAtOneMore(due, "with 36004 bytes", repeated(4000, 9, 1), 3997, false);
        lookAtOneMore(due, "with 40000 bytes by 3997", repeated(3997, 9, 3997), 0, true);
    }

    private static void bytesAtOnce(Due due) {
        due.about("are there at once");
        RvMachine m = withSizes(repeated(4000, 9, 4000));
        due.is("one that may not be", Asm.call(m, GIVEN, 1), 0);
        Asm.call(m, 4, 2 << 16);
        due.is("count(2) when a given one is gone", m.count(2), 36000);
        due.is("one of 3999", Asm.call(m, GIVEN, 3999), 11 << 16);
        due.is("one that may not be", Asm.call(m, GIVEN, 1), 0);
        Asm.call(m, 2, 2);
        due.is("count(2) when two last ones are gone", m.count(2), 32000);
        due.is("one of 4000", Asm.call(m, LAST, 4000), 12 << 16);
        due.is("one of 3996", Asm.call(m, GIVEN, 3996), 13 << 16);
        due.is("one that may not be", Asm.call(m, GIVEN, 5), 0);
        due.is("one of 4", Asm.call(m, GIVEN, 4), 14 << 16);
        due.is("count(2)", m.count(2), 40000);
        m.begin(0);
        for (int k = 1; k <= 10; k++) {
            due.is("4000 in the next run", Asm.call(m, GIVEN, 4000), k << 16);
        }
        due.is("one that may not be", Asm.call(m, GIVEN, 1), 0);
    }

    private static void peekEdges(Due due) {
        due.about("The byte at an ADDRESS, 0 to 255; -1 if it may not be read");
        RvMachine m = withObject(GIVEN, 5);
        int[][] values = {{0, 0}, {1, 1}, {127, 127}, {128, 128}, {255, 255}, {256, 0}, {-1, 255}};
        for (int[] row : values) {
            m.set(5, row[0]);
            does(m, Asm.sb(5, 4, 6), 65536);
            due.is("peek of " + row[0], m.peek(65540), row[1]);
        }
        int[][] places = {{65535, -1}, {65536, 0}, {65539, 0}, {65540, 255}, {65541, -1}, {65543, -1}, {131071, -1},
            {131072, -1}, {0, -1}, {-1, -1}, {MIN, -1}, {MAX, -1}, {MIN + 65536, -1}, {5, -1}, {4, -1}};
        for (int[] row : places) {
            due.is("peek(" + row[0] + ")", m.peek(row[0]), row[1]);
        }
    }
}
