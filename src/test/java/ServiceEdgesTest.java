/** The edges that the document names for the services; those of bytes read and written are in StreamEdgesTest. */
public final class ServiceEdgesTest {
    private static final int MIN = Integer.MIN_VALUE;
    private static final int MAX = Integer.MAX_VALUE;
    private static final int LAST = 1;
    private static final int GIVEN = 3;

    public static void main(String[] args) {
        Due due = new Due("ServiceEdgesTest");
        endOfTheRun(due);
        newAddress(due);
        noneMayBe(due);
        noneMayBeGiven(due);
        lastOnesGo(due);
        lastOnesMadeLast(due);
        notSoMany(due);
        givenOneGoes(due);
        nothingForZero(due);
        noneSuch(due);
        sameNumber(due);
        notSameNumber(due);
        copiedBytes(due);
        copiedTooMany(due);
        copiedNone(due);
        copiedWhenRead(due);
        copiedByteByByte(due);
        others(due);
        due.end();
    }

    private static void endOfTheRun(Due due) {
        due.about("0 the RUN ends");
        RvMachine m = Asm.begun(Asm.NOP, Asm.ECALL, Asm.NOP);
        m.set(Asm.A0, 10);
        m.set(Asm.A1, 11);
        m.set(5, 55);
        due.is("run(1)", m.run(1), 1);
        due.is("state() before it", m.state(), 1);
        due.is("run(9)", m.run(9), 1);
        due.isSame("then", Seen.now(m), "state 2, registers 0 0 0 0 0 55 0 0 0 0 10 11" + " 0".repeat(20)
            + " 4, counts 3 0 0 0 2 0 0, bytes");
        due.isThrown("run(1)", IllegalStateException.class, () -> m.run(1));
    }

    private static void newAddress(Due due) {
        due.about("1 a10 becomes the ADDRESS of a new OBJECT of a10 bytes (place 0), which is LAST; 3 .. GIVEN");
        RvMachine m = Asm.forServices();
        for (int k = 1; k <= 6; k++) {
            int service = k % 2 == 1 ? LAST : GIVEN;
            due.is("object " + k, Asm.call(m, service, k, 71, 72), k << 16);
            due.is("a11 stays", m.register(Asm.A1), 71);
            due.is("a12 stays", m.register(Asm.A2), 72);
            due.is("register 17 stays", m.register(Asm.A7), service);
            due.is("its last byte", m.peek((k << 16) + k - 1), 0);
            due.is("behind it", m.peek((k << 16) + k), -1);
            due.is("count(1)", m.count(1), k);
            due.is("count(3)", m.count(3), (k + 1) / 2);
        }
    }

    /** A machine with 40000 bytes in ten objects. */
    private static RvMachine full() {
        RvMachine m = Asm.forServices();
        for (int k = 1; k <= 10; k++) {
            Asm.call(m, k % 2 == 1 ? LAST : GIVEN, 4000);
        }
        return m;
    }

    private static void noneMayBe(Due due) {
        due.about("1 .. TRAP 4 if there may be none");
        for (int size : new int[] {-1, 4001, MIN, MAX}) {
            Edge.trappedService(due, Asm.forServices(), 4, new int[] {LAST, size, 0, 0}, 0x10000);
        }
        for (int size : new int[] {1, 4000}) {
            Edge.trappedService(due, full(), 4, new int[] {LAST, size, 0, 0}, 0x10000, 0xa0f9f, 0xb0000);
        }
        due.is("0 bytes", Asm.call(full(), LAST, 0), 11 << 16);
    }

    private static void noneMayBeGiven(Due due) {
        due.about("3 as 1, but it is GIVEN, and a10 becomes 0 if there may be none");
        for (int size : new int[] {1, 4, 4000, 4001, -1, MIN, MAX}) {
            // The twin does service 7, which changes nothing.
            RvMachine m = full();
            RvMachine twin = full();
            due.is(size + " bytes", Asm.call(m, GIVEN, size), 0);
            Asm.call(twin, 7, 0);
            twin.set(Asm.A7, GIVEN);
            due.isSame(size + " bytes", Seen.now(m, 0x10000, 0xa0f9f, 0xb0000),
                Seen.now(twin, 0x10000, 0xa0f9f, 0xb0000));
            due.is("a last one goes", Asm.call(m, 2, 1), 1);
            due.is("the next", Asm.call(m, GIVEN, 4000), 11 << 16);
        }
    }

    /** A machine with objects 1 to 6 of 4 bytes: LAST are 1, 3, 4, 6, GIVEN are 2, 5. */
    private static RvMachine withSix() {
        RvMachine m = Asm.forServices();
        for (int service : new int[] {LAST, GIVEN, LAST, LAST, GIVEN, LAST}) {
            Asm.call(m, service, 4);
        }
        return m;
    }

    /** Which of the first nine objects are there, the first one highest. */
    private static int there(RvMachine m) {
        int seen = 0;
        for (int k = 1; k <= 9; k++) {
            seen = 10 * seen + (m.peek(k << 16) == -1 ? 0 : 1);
        }
        return seen;
    }

    private static void lastOnesGo(Due due) {
        due.about("2 the a10 LAST ones that were made last go");
        int[] left = {111111000, 111110000, 111010000, 110010000, 10010000};
        for (int n = 0; n <= 4; n++) {
            RvMachine m = withSix();
            due.is(n + " go", Asm.call(m, 2, n, 71, 72), n);
            due.is("which are there", there(m), left[n]);
            due.is("count(1)", m.count(1), 6);
            due.is("count(2)", m.count(2), 24 - 4 * n);
            due.is("count(3)", m.count(3), 4 - n);
            due.is("a11 stays", m.register(Asm.A1), 71);
            due.is("a12 stays", m.register(Asm.A2), 72);
            due.is("state()", m.state(), 1);
        }
        RvMachine empty = Asm.forServices();
        Asm.call(empty, LAST, 0);
        due.is("one of 0 bytes goes", Asm.call(empty, 2, 1), 1);
        due.is("count(3)", empty.count(3), 0);
    }

    private static void lastOnesMadeLast(Due due) {
        due.about("2 the a10 LAST ones that were made last go");
        RvMachine m = withSix();
        Asm.call(m, 2, 1);
        Asm.call(m, 4, 0x50000);
        Asm.call(m, LAST, 4);
        due.is("number 7 came", there(m), 111100100);
        Asm.call(m, 2, 2);
        due.is("7 and 4 go", there(m), 111000000);
        Asm.call(m, GIVEN, 4);
        Asm.call(m, LAST, 4);
        Asm.call(m, 2, 3);
        due.is("9, 3 and 1 go", there(m), 10000010);
        due.is("count(3)", m.count(3), 0);
    }

    private static void notSoMany(Due due) {
        due.about("TRAP 4 if there are not so many, or a10 is below 0");
        for (int n : new int[] {5, 6, 7, -1, -4, MIN, MAX}) {
            RvMachine m = withSix();
            Edge.trappedService(due, m, 4, new int[] {2, n, 0, 0}, 0x10000, 0x30000, 0x40000, 0x60000);
            due.is("which are there", there(m), 111111000);
        }
        for (int n : new int[] {1, -1}) {
            Edge.trappedService(due, Asm.forServices(), 4, new int[] {2, n, 0, 0});
            RvMachine gone = withSix();
            Asm.call(gone, 2, 4);
            Edge.trappedService(due, gone, 4, new int[] {2, n, 0, 0}, 0x20000, 0x50000);
        }
        due.is("none of none", Asm.call(Asm.forServices(), 2, 0), 0);
    }

    private static void givenOneGoes(Due due) {
        due.about("4 the GIVEN OBJECT with ADDRESS a10 (place 0) goes");
        RvMachine m = withSix();
        due.is("number 2", Asm.call(m, 4, 0x20000, 71, 72), 0x20000);
        due.is("which are there", there(m), 101111000);
        due.is("count(1)", m.count(1), 6);
        due.is("count(2)", m.count(2), 20);
        due.is("count(3)", m.count(3), 4);
        due.is("a11 stays", m.register(Asm.A1), 71);
        due.is("number 5", Asm.call(m, 4, 0x50000), 0x50000);
        due.is("which are there", there(m), 101101000);
        due.is("one of 0 bytes", Asm.call(m, GIVEN, 0), 0x70000);
        due.is("it goes", Asm.call(m, 4, 0x70000), 0x70000);
        Edge.trappedService(due, m, 4, new int[] {4, 0x70000, 0, 0}, 0x10000);
    }

    private static void nothingForZero(Due due) {
        due.about("4 .. (0: nothing)");
        for (RvMachine m : new RvMachine[] {Asm.forServices(), withSix()}) {
            int there = there(m);
            int bytes = m.count(2);
            due.is("0", Asm.call(m, 4, 0), 0);
            due.is("state()", m.state(), 1);
            due.is("which are there", there(m), there);
            due.is("count(2)", m.count(2), bytes);
        }
    }

    private static void noneSuch(Due due) {
        due.about("TRAP 4 if there is none such");
        // Other places of a GIVEN one, LAST ones, numbers that were never made, number 0.
        int[] addresses = {0x20001, 0x20003, 0x20004, 0x2ffff, 0x1ffff, 0x10000, 0x30000, 0x60000, 0x70000, 0x80000,
            1, 4, 0xffff, -1, -65536, MIN, MAX, 0x80020000};
        for (int address : addresses) {
            RvMachine m = withSix();
            Edge.trappedService(due, m, 4, new int[] {4, address, 0, 0}, 0x10000, 0x20000, 0x50000, 0x60000);
            due.is("which are there", there(m), 111111000);
        }
        RvMachine gone = withSix();
        Asm.call(gone, 4, 0x20000);
        Edge.trappedService(due, gone, 4, new int[] {4, 0x20000, 0, 0}, 0x10000, 0x20000, 0x50000);
        RvMachine lastGone = withSix();
        Asm.call(lastGone, 2, 1);
        Edge.trappedService(due, lastGone, 4, new int[] {4, 0x60000, 0, 0}, 0x10000, 0x20000, 0x50000);
        RvMachine begun = withSix();
        begun.begin(0);
        Edge.trappedService(due, begun, 4, new int[] {4, 0x20000, 0, 0}, 0x20000);
    }

    private static void sameNumber(Due due) {
        due.about("the same number of an OBJECT (upper 16 bits, whether there is one or not)");
        int[][] same = {{0, 0}, {0, 0xffff}, {0x10000, 0x1ffff}, {0x1ffff, 0x10000}, {0x20004, 0x20000},
            {0x70000, 0x70001}, {-1, -65536}, {MIN, MIN + 0xffff}, {MAX, 0x7fff0000}};
        for (int[] pair : same) {
            RvMachine m = withSix();
            due.is(pair[0] + " and " + pair[1], Asm.call(m, 7, pair[0], pair[1], 72), pair[0]);
            due.is("a11 stays", m.register(Asm.A1), pair[1]);
            due.is("a12 stays", m.register(Asm.A2), 72);
            due.is("which are there", there(m), 111111000);
            due.is("state()", m.state(), 1);
        }
    }

    private static void notSameNumber(Due due) {
        due.about("7 TRAP 4 if a10 and a11 have not the same number of an OBJECT");
        int[][] other = {{0, 0x10000}, {0xffff, 0x10000}, {0x10000, 0xffff}, {0x1ffff, 0x20000}, {0x20000, 0x1ffff},
            {0x30000, 0x10000}, {0, -1}, {-65536, -65537}, {MIN, MAX}, {MIN, 0}, {0x00010000, 0x80010000}};
        for (int[] pair : other) {
            Edge.trappedService(due, withSix(), 4, new int[] {7, pair[0], pair[1], 0}, 0x10000, 0x20000);
        }
    }

    /** Objects 1 (GIVEN) and 2 (LAST) of a size, the bytes of the first 1, 2, .. 255, 0, 1, ..; of the second 0. */
    private static RvMachine forCopies(int size) {
        RvMachine m = Asm.begun(Asm.ECALL, Asm.jal(0, -4), Asm.addi(5, 5, 1), Asm.sb(5, 0, 6), Asm.addi(6, 6, 1),
            Asm.bne(6, 7, -12), Asm.jal(0, -24));
        Asm.call(m, GIVEN, size);
        Asm.call(m, LAST, size);
        m.change(0, Asm.jal(0, 8));
        m.set(6, 0x10000);
        m.set(7, 0x10000 + size);
        m.run(1 + 2 * size);
        m.run(2 * size);
        m.change(0, Asm.ECALL);
        m.run(1);
        return m;
    }

    private static void lookAtBytes(Due due, String what, RvMachine m, int size, int n, int to, int from) {
        for (int i : new int[] {0, 1, 2, n / 2, n - 2, n - 1, n, n + 1, size - 2, size - 1}) {
            if (i >= 0 && i < size) {
                boolean copied = i >= to && i < to + n;
                due.is(what + ": byte " + i, m.peek(0x20000 + i), copied ? i - to + from + 1 & 255 : 0);
                due.is(what + ": source " + i, m.peek(0x10000 + i), i + 1 & 255);
            }
        }
    }

    private static void copiedBytes(Due due) {
        due.about("8 a12 bytes (0 to 4000, else TRAP 4) are copied from a11 to a10");
        for (int n : new int[] {0, 1, 2, 3, 3998, 3999, 4000}) {
            RvMachine m = forCopies(4000);
            due.is(n + " bytes", Asm.call(m, 8, 0x20000, 0x10000, n), 0x20000);
            due.is("a11 stays", m.register(Asm.A1), 0x10000);
            due.is("a12 stays", m.register(Asm.A2), n);
            lookAtBytes(due, n + " bytes", m, 4000, n, 0, 0);
            int to = Math.min(3, 4000 - n);
            int from = Math.min(1, 4000 - n);
            RvMachine askew = forCopies(4000);
            due.is(n + " bytes askew", Asm.call(askew, 8, 0x20000 + to, 0x10000 + from, n), 0x20000 + to);
            lookAtBytes(due, n + " bytes askew", askew, 4000, n, to, from);
        }
    }

    private static void copiedTooMany(Due due) {
        due.about("(0 to 4000, else TRAP 4)");
        for (int n : new int[] {-1, -4000, 4001, 4002, 65536, MIN, MAX}) {
            RvMachine m = forCopies(4000);
            Edge.trappedService(due, m, 4, new int[] {8, 0x20000, 0x10000, n}, 0x20000, 0x20f9f);
            Edge.trappedService(due, forCopies(8), 4, new int[] {8, 0, -1, n}, 0x20000);
        }
    }

    private static void copiedNone(Due due) {
        due.about("8 a12 bytes (0 ..)");
        int[][] addresses = {{0x20000, 0x10000}, {0x20008, 0x10008}, {0, 0}, {-1, -1}, {0x30000, 0x10000}, {MIN, MAX}};
        for (int[] row : addresses) {
            RvMachine m = forCopies(8);
            due.is("0 bytes from " + row[1] + " to " + row[0], Asm.call(m, 8, row[0], row[1], 0), row[0]);
            due.is("state()", m.state(), 1);
            lookAtBytes(due, "0 bytes", m, 8, 0, 0, 0);
        }
    }

    private static void copiedWhenRead(Due due) {
        due.about("all of them read before they are written");
        int[][] rows = {{1, 0, 7}, {0, 1, 7}, {2, 0, 6}, {0, 2, 6}, {3, 2, 4}, {2, 3, 4}, {0, 0, 8}, {4, 0, 4},
            {0, 4, 4}, {7, 0, 1}, {5, 1, 3}, {1, 2, 1}};
        for (int[] row : rows) {
            RvMachine m = forCopies(8);
            Asm.call(m, 8, 0x10000 + row[0], 0x10000 + row[1], row[2]);
            for (int i = 0; i < 8; i++) {
                boolean copied = i >= row[0] && i < row[0] + row[2];
                due.is(row[2] + " from " + row[1] + " to " + row[0] + ": byte " + i, m.peek(0x10000 + i),
                    copied ? i - row[0] + row[1] + 1 : i + 1);
            }
        }
        int[] pair = {1, 0};
        for (int to : pair) {
            RvMachine m = forCopies(4000);
            Asm.call(m, 8, 0x10000 + to, 0x10001 - to, 3999);
            for (int i : new int[] {1, 2, 2000, 3997, 3998}) {
                due.is("3999 to " + to + ": byte " + i, m.peek(0x10000 + i), i + 2 - 2 * to & 255);
            }
            due.is("3999 to " + to + ": the first", m.peek(0x10000), to == 1 ? 1 : 2);
            due.is("3999 to " + to + ": the last", m.peek(0x10000 + 3999), 3999 + 1 - to & 255);
        }
    }

    private static void copiedByteByByte(Due due) {
        due.about("TRAP 2 if one of them, byte by byte, may not: none is copied then");
        int[][] may = {{0x20000, 0x10000, 7}, {0x20001, 0x10001, 6}, {0x20006, 0x10000, 1}, {0x20000, 0x10006, 1},
            {0x20003, 0x10002, 4}};
        for (int[] row : may) {
            due.is(row[2] + " from " + row[1] + " to " + row[0],
                Asm.call(forCopies(7), 8, row[0], row[1], row[2]), row[0]);
        }
        int[][] mayNot = {
            {0x20000, 0x10000, 8}, {0x20001, 0x10000, 7}, {0x20000, 0x10001, 7}, {0x20007, 0x10000, 1},
            {0x20000, 0x10007, 1}, {0x20004, 0x10000, 4}, {0x20000, 0x10004, 4}, {0x20000, 0x10000, 4000},
            {0x1ffff, 0x10000, 1}, {0x1ffff, 0x10000, 2}, {0x20000, 0x1ffff, 2}, {0x20000, 0xffff, 2},
            {0x20000, 0x30000, 1}, {0x30000, 0x10000, 1}, {0x20000, 0, 1}, {0, 0x10000, 1}, {0x20000, -1, 1},
            {-1, 0x10000, 1}, {-1, 0x10000, 4000}, {MIN, 0x10000, 1}, {0x20000, MAX, 1}, {0x10001, 0x10000, 7},
            {0x30000, 0x30000, 1},
        };
        int[] bytes = {0x10000, 0x10001, 0x10006, 0x10007, 0x20000, 0x20001, 0x20002, 0x20003, 0x20004, 0x20005,
            0x20006, 0x20007};
        for (int[] row : mayNot) {
            Edge.trappedService(due, forCopies(7), 2, new int[] {8, row[0], row[1], row[2]}, bytes);
        }
        RvMachine gone = forCopies(7);
        Asm.call(gone, 4, 0x10000);
        Edge.trappedService(due, gone, 2, new int[] {8, 0x20000, 0x10000, 1}, bytes);
        RvMachine lastGone = forCopies(7);
        Asm.call(lastGone, 2, 1);
        Edge.trappedService(due, lastGone, 2, new int[] {8, 0x20000, 0x10000, 1}, bytes);
    }

    private static void others(Due due) {
        due.about("Others are TRAP 4");
        for (int service : new int[] {-1, 9, 10, 11, 16, 255, 256, 257, 93, -9, MIN, MAX, 0x10001, 0x80000001}) {
            Edge.trappedService(due, withSix(), 4, new int[] {service, 1, 2, 3}, 0x10000, 0x60000, 0x70000);
        }
        due.is("service 8 is one", Asm.call(withSix(), 8, 0x10000, 0x20000, 4), 0x10000);
        RvMachine end = withSix();
        Asm.call(end, 0, 0);
        due.is("service 0 is one", end.state(), 2);
    }
}
