/** Promise 12: count. */
public final class CountTest {
    public static void main(String[] args) {
        Due due = new Due("CountTest");
        RvMachine m = Asm.forServices();
        m.input(0x010203, 3);
        Asm.call(m, 1, 5);
        Asm.call(m, 1, 4);
        Asm.call(m, 3, 1);
        Asm.call(m, 1, 0);
        Asm.call(m, 5, 65);
        Asm.call(m, 5, 66);
        Asm.call(m, 6, 0);
        look(due, m, "after making", 2, 4, 16, 3, 14, 2, 2);
        Asm.call(m, 2, 2);
        look(due, m, "after dropping two", 2, 4, 12, 1, 16, 2, 2);
        Asm.call(m, 4, 3 << 16);
        look(due, m, "after dropping the given one", 2, 4, 8, 1, 18, 2, 2);
        m.take();
        look(due, m, "after take", 2, 4, 8, 1, 18, 0, 2);
        Asm.call(m, 77, 0);
        look(due, m, "after a trap", 2, 4, 8, 1, 18, 0, 2);
        m.word(0);
        look(due, m, "after a word more", 3, 4, 8, 1, 18, 0, 2);
        for (int what : new int[] {-1, 7, 8, Integer.MIN_VALUE, Integer.MAX_VALUE}) {
            due.isThrown("count(" + what + ")", IllegalArgumentException.class, () -> m.count(what));
        }
        m.begin(0);
        look(due, m, "after begin", 3, 0, 0, 0, 0, 0, 2);
        due.end();
    }

    private static void look(Due due, RvMachine m, String when, int... counts) {
        for (int what = 0; what <= 6; what++) {
            due.is("count(" + what + ") " + when, m.count(what), counts[what]);
        }
    }
}
