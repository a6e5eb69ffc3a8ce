/** Promises 2 and 3: word and change. */
public final class WordsTest {
    public static void main(String[] args) {
        Due due = new Due("WordsTest");
        lookAtWord(due);
        lookAtChange(due);
        lookAtWordsOfARun(due);
        lookAtTheMost(due);
        due.end();
    }

    private static void lookAtWord(Due due) {
        RvMachine m = new RvMachine();
        for (int k = 1; k <= 300; k++) {
            due.is("word " + k, m.word(1000 - 7 * k), k);
        }
        due.is("count(0)", m.count(0), 300);
        for (int k = 0; k < 200; k++) {
            due.is("change(" + k + ", 0)", m.change(k, 0), 1000 - 7 * (k + 1));
        }
    }

    private static void lookAtChange(Due due) {
        RvMachine m = new RvMachine();
        m.word(5);
        m.word(Integer.MIN_VALUE);
        due.is("change(0, -1)", m.change(0, -1), 5);
        due.is("change(0, 6)", m.change(0, 6), -1);
        due.is("change(1, 1)", m.change(1, 1), Integer.MIN_VALUE);
        for (int k : new int[] {2, 3, 64, 4000, -1, Integer.MIN_VALUE, Integer.MAX_VALUE}) {
            due.isThrown("change(" + k + ", 9)", IndexOutOfBoundsException.class, () -> m.change(k, 9));
        }
        due.is("change(0, 0)", m.change(0, 0), 6);
        due.is("change(1, 0)", m.change(1, 0), 1);
        due.is("count(0)", m.count(0), 2);
    }

    // A run fetches the words as they are at the time, those too that came after it began.
    private static void lookAtWordsOfARun(Due due) {
        RvMachine m = Asm.begun(Asm.li(5, 1), Asm.li(6, 2));
        m.run(1);
        due.is("change of the next word", m.change(1, Asm.li(6, 3)), Asm.li(6, 2));
        m.run(1);
        due.is("register(6)", m.register(6), 3);
        due.is("state() before the word that is not there", m.state(), 1);
        due.is("a word more", m.word(Asm.li(7, 4)), 3);
        due.is("run(5)", m.run(5), 1);
        due.is("register(7)", m.register(7), 4);
        due.is("state()", m.state(), 13);
    }

    // 4000 words take more calls than an object is used for; the limit is kept all the same.
    private static void lookAtTheMost(Due due) {
        RvMachine m = new RvMachine();
        for (int k = 1; k <= 4000; k++) {
            due.is("word " + k, m.word(k), k);
        }
        due.isThrown("word 4001", IllegalStateException.class, () -> m.word(1));
        due.is("count(0)", m.count(0), 4000);
        due.is("change(3999, 0)", m.change(3999, 0), 4000);
        due.isThrown("change(4000, 0)", IndexOutOfBoundsException.class, () -> m.change(4000, 0));
    }
}
