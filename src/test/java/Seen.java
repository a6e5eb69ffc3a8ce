import java.util.Arrays;

/** What can be seen of a machine, as text: machines that are alike give the same. */
final class Seen {
    private static final int MOST_TAKEN = 130;

    private Seen() { }

    /** Without changing it: registers, counts, and the bytes at some addresses; 40 calls and one an address. */
    static String besideState(RvMachine m, int... addresses) {
        StringBuilder seen = new StringBuilder("registers");
        for (int k = 0; k <= 32; k++) {
            seen.append(' ').append(m.register(k));
        }
        seen.append(", counts");
        for (int what = 0; what <= 6; what++) {
            seen.append(' ').append(m.count(what));
        }
        seen.append(", bytes");
        for (int address : addresses) {
            seen.append(' ').append(m.peek(address));
        }
        return seen.toString();
    }

    static String now(RvMachine m, int... addresses) {
        return "state " + m.state() + ", " + besideState(m, addresses);
    }

    /** What comes after it, which changes it: how its run goes on, its words, what was written, its input. */
    static String later(RvMachine m, int... addresses) {
        StringBuilder seen = new StringBuilder("later ");
        if (m.state() == 1) {
            seen.append(m.run(100)).append(' ').append(now(m, addresses));
        }
        int[] words = new int[m.count(0)];
        for (int k = 0; k < words.length; k++) {
            words[k] = m.change(k, 0);
        }
        seen.append(", words ").append(Arrays.toString(words));
        return seen.append(written(m)).append(input(m)).toString();
    }

    private static String written(RvMachine m) {
        StringBuilder seen = new StringBuilder(", written");
        for (int i = 0; i < MOST_TAKEN && m.count(5) > 0; i++) {
            seen.append(' ').append(m.count(5)).append(':').append(m.take());
        }
        return seen.toString();
    }

    // A program behind the words that are there writes the input out.
    private static String input(RvMachine m) {
        int[] program = {Asm.li(Asm.A7, 6), Asm.ECALL, Asm.li(Asm.A7, 5), Asm.ECALL, Asm.jal(0, -16)};
        for (int w : program) {
            m.word(w);
        }
        int unread = m.count(6);
        m.begin(m.count(0) - program.length);
        if (unread > 0) {
            m.run(unread * program.length);
        }
        StringBuilder seen = new StringBuilder(", input ").append(unread);
        for (int i = 0; i < (unread + 7) / 8; i++) {
            seen.append(' ').append(m.take());
        }
        return seen.toString();
    }
}
